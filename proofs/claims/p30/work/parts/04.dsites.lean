theorem dX9_init_0 : decode cX9_init 0 = .ok (.aload_n 0, 1) := by decide +kernel
theorem dX9_init_1 : decode cX9_init 1 = .ok (.invokespecial 1, 3) := by decide +kernel
theorem dX9_init_4 : decode cX9_init 4 = .ok (.aload_n 0, 1) := by decide +kernel
theorem dX9_init_5 : decode cX9_init 5 = .ok (.new 7, 3) := by decide +kernel
theorem dX9_init_8 : decode cX9_init 8 = .ok (.dup, 1) := by decide +kernel
theorem dX9_init_9 : decode cX9_init 9 = .ok (.invokespecial 9, 3) := by decide +kernel
theorem dX9_init_12 : decode cX9_init 12 = .ok (.putfield 10, 3) := by decide +kernel
theorem dX9_init_15 : decode cX9_init 15 = .ok (.aload_n 0, 1) := by decide +kernel
theorem dX9_init_16 : decode cX9_init 16 = .ok (.new 16, 3) := by decide +kernel
theorem dX9_init_19 : decode cX9_init 19 = .ok (.dup, 1) := by decide +kernel
theorem dX9_init_20 : decode cX9_init 20 = .ok (.invokespecial 18, 3) := by decide +kernel
theorem dX9_init_23 : decode cX9_init 23 = .ok (.putfield 19, 3) := by decide +kernel
theorem dX9_init_26 : decode cX9_init 26 = .ok (.aload_n 0, 1) := by decide +kernel
theorem dX9_init_27 : decode cX9_init 27 = .ok (.new 23, 3) := by decide +kernel
theorem dX9_init_30 : decode cX9_init 30 = .ok (.dup, 1) := by decide +kernel
theorem dX9_init_31 : decode cX9_init 31 = .ok (.invokespecial 25, 3) := by decide +kernel
theorem dX9_init_34 : decode cX9_init 34 = .ok (.putfield 26, 3) := by decide +kernel
theorem dX9_init_37 : decode cX9_init 37 = .ok (.aload_n 0, 1) := by decide +kernel
theorem dX9_init_38 : decode cX9_init 38 = .ok (.new 30, 3) := by decide +kernel
theorem dX9_init_41 : decode cX9_init 41 = .ok (.dup, 1) := by decide +kernel
theorem dX9_init_42 : decode cX9_init 42 = .ok (.invokespecial 32, 3) := by decide +kernel
theorem dX9_init_45 : decode cX9_init 45 = .ok (.putfield 33, 3) := by decide +kernel
theorem dX9_init_48 : decode cX9_init 48 = .ok (.aload_n 0, 1) := by decide +kernel
theorem dX9_init_49 : decode cX9_init 49 = .ok (.new 37, 3) := by decide +kernel
theorem dX9_init_52 : decode cX9_init 52 = .ok (.dup, 1) := by decide +kernel
theorem dX9_init_53 : decode cX9_init 53 = .ok (.invokespecial 39, 3) := by decide +kernel
theorem dX9_init_56 : decode cX9_init 56 = .ok (.putfield 40, 3) := by decide +kernel
theorem dX9_init_59 : decode cX9_init 59 = .ok (.return_, 1) := by decide +kernel
theorem dX9_addSnow_0 : decode cX9_addSnow 0 = .ok (.aload_n 0, 1) := by decide +kernel
theorem dX9_addSnow_1 : decode cX9_addSnow 1 = .ok (.iload_n 1, 1) := by decide +kernel
theorem dX9_addSnow_2 : decode cX9_addSnow 2 = .ok (.invokevirtual 44, 3) := by decide +kernel
theorem dX9_addSnow_5 : decode cX9_addSnow 5 = .ok (.invokestatic 48, 3) := by decide +kernel
theorem dX9_addSnow_8 : decode cX9_addSnow 8 = .ok (.aload_n 0, 1) := by decide +kernel
theorem dX9_addSnow_9 : decode cX9_addSnow 9 = .ok (.getfield 19, 3) := by decide +kernel
theorem dX9_addSnow_12 : decode cX9_addSnow 12 = .ok (.aload_n 0, 1) := by decide +kernel
theorem dX9_addSnow_13 : decode cX9_addSnow 13 = .ok (.getfield 10, 3) := by decide +kernel
theorem dX9_addSnow_16 : decode cX9_addSnow 16 = .ok (.invokevirtual 52, 3) := by decide +kernel
theorem dX9_addSnow_19 : decode cX9_addSnow 19 = .ok (.aload_n 0, 1) := by decide +kernel
theorem dX9_addSnow_20 : decode cX9_addSnow 20 = .ok (.getfield 10, 3) := by decide +kernel
theorem dX9_addSnow_23 : decode cX9_addSnow 23 = .ok (.iload_n 1, 1) := by decide +kernel
theorem dX9_addSnow_24 : decode cX9_addSnow 24 = .ok (.invokevirtual 56, 3) := by decide +kernel
theorem dX9_addSnow_27 : decode cX9_addSnow 27 = .ok (.aload_n 0, 1) := by decide +kernel
theorem dX9_addSnow_28 : decode cX9_addSnow 28 = .ok (.getfield 10, 3) := by decide +kernel
theorem dX9_addSnow_31 : decode cX9_addSnow 31 = .ok (.getfield 59, 3) := by decide +kernel
theorem dX9_addSnow_34 : decode cX9_addSnow 34 = .ok (.ireturn, 1) := by decide +kernel
theorem dX9_press_0 : decode cX9_press 0 = .ok (.aload_n 0, 1) := by decide +kernel
theorem dX9_press_1 : decode cX9_press 1 = .ok (.iload_n 1, 1) := by decide +kernel
theorem dX9_press_2 : decode cX9_press 2 = .ok (.iload_n 2, 1) := by decide +kernel
theorem dX9_press_3 : decode cX9_press 3 = .ok (.invokevirtual 63, 3) := by decide +kernel
theorem dX9_press_6 : decode cX9_press 6 = .ok (.invokestatic 48, 3) := by decide +kernel
theorem dX9_press_9 : decode cX9_press 9 = .ok (.aload_n 0, 1) := by decide +kernel
theorem dX9_press_10 : decode cX9_press 10 = .ok (.getfield 19, 3) := by decide +kernel
theorem dX9_press_13 : decode cX9_press 13 = .ok (.aload_n 0, 1) := by decide +kernel
theorem dX9_press_14 : decode cX9_press 14 = .ok (.getfield 10, 3) := by decide +kernel
theorem dX9_press_17 : decode cX9_press 17 = .ok (.invokevirtual 52, 3) := by decide +kernel
theorem dX9_press_20 : decode cX9_press 20 = .ok (.aload_n 0, 1) := by decide +kernel
theorem dX9_press_21 : decode cX9_press 21 = .ok (.getfield 10, 3) := by decide +kernel
theorem dX9_press_24 : decode cX9_press 24 = .ok (.iload_n 1, 1) := by decide +kernel
theorem dX9_press_25 : decode cX9_press 25 = .ok (.iload_n 2, 1) := by decide +kernel
theorem dX9_press_26 : decode cX9_press 26 = .ok (.invokevirtual 67, 3) := by decide +kernel
theorem dX9_press_29 : decode cX9_press 29 = .ok (.aload_n 0, 1) := by decide +kernel
theorem dX9_press_30 : decode cX9_press 30 = .ok (.getfield 10, 3) := by decide +kernel
theorem dX9_press_33 : decode cX9_press 33 = .ok (.getfield 71, 3) := by decide +kernel
theorem dX9_press_36 : decode cX9_press 36 = .ok (.iload_n 1, 1) := by decide +kernel
theorem dX9_press_37 : decode cX9_press 37 = .ok (.iaload, 1) := by decide +kernel
theorem dX9_press_38 : decode cX9_press 38 = .ok (.ireturn, 1) := by decide +kernel
theorem dX9_stack_0 : decode cX9_stack 0 = .ok (.aload_n 0, 1) := by decide +kernel
theorem dX9_stack_1 : decode cX9_stack 1 = .ok (.iload_n 1, 1) := by decide +kernel
theorem dX9_stack_2 : decode cX9_stack 2 = .ok (.iload_n 2, 1) := by decide +kernel
theorem dX9_stack_3 : decode cX9_stack 3 = .ok (.invokevirtual 75, 3) := by decide +kernel
theorem dX9_stack_6 : decode cX9_stack 6 = .ok (.invokestatic 48, 3) := by decide +kernel
theorem dX9_stack_9 : decode cX9_stack 9 = .ok (.aload_n 0, 1) := by decide +kernel
theorem dX9_stack_10 : decode cX9_stack 10 = .ok (.getfield 19, 3) := by decide +kernel
theorem dX9_stack_13 : decode cX9_stack 13 = .ok (.aload_n 0, 1) := by decide +kernel
theorem dX9_stack_14 : decode cX9_stack 14 = .ok (.getfield 10, 3) := by decide +kernel
theorem dX9_stack_17 : decode cX9_stack 17 = .ok (.invokevirtual 52, 3) := by decide +kernel
theorem dX9_stack_20 : decode cX9_stack 20 = .ok (.aload_n 0, 1) := by decide +kernel
theorem dX9_stack_21 : decode cX9_stack 21 = .ok (.getfield 10, 3) := by decide +kernel
theorem dX9_stack_24 : decode cX9_stack 24 = .ok (.iload_n 1, 1) := by decide +kernel
theorem dX9_stack_25 : decode cX9_stack 25 = .ok (.iload_n 2, 1) := by decide +kernel
theorem dX9_stack_26 : decode cX9_stack 26 = .ok (.invokevirtual 78, 3) := by decide +kernel
theorem dX9_stack_29 : decode cX9_stack 29 = .ok (.aload_n 0, 1) := by decide +kernel
theorem dX9_stack_30 : decode cX9_stack 30 = .ok (.getfield 10, 3) := by decide +kernel
theorem dX9_stack_33 : decode cX9_stack 33 = .ok (.getfield 81, 3) := by decide +kernel
theorem dX9_stack_36 : decode cX9_stack 36 = .ok (.getfield 84, 3) := by decide +kernel
theorem dX9_stack_39 : decode cX9_stack 39 = .ok (.iload_n 1, 1) := by decide +kernel
theorem dX9_stack_40 : decode cX9_stack 40 = .ok (.iaload, 1) := by decide +kernel
theorem dX9_stack_41 : decode cX9_stack 41 = .ok (.iconst 1, 1) := by decide +kernel
theorem dX9_stack_42 : decode cX9_stack 42 = .ok (.isub, 1) := by decide +kernel
theorem dX9_stack_43 : decode cX9_stack 43 = .ok (.ireturn, 1) := by decide +kernel
theorem dX9_setWall_0 : decode cX9_setWall 0 = .ok (.iload_n 1, 1) := by decide +kernel
theorem dX9_setWall_1 : decode cX9_setWall 1 = .ok (.invokestatic 87, 3) := by decide +kernel
theorem dX9_setWall_4 : decode cX9_setWall 4 = .ok (.invokestatic 48, 3) := by decide +kernel
theorem dX9_setWall_7 : decode cX9_setWall 7 = .ok (.aload_n 0, 1) := by decide +kernel
theorem dX9_setWall_8 : decode cX9_setWall 8 = .ok (.getfield 19, 3) := by decide +kernel
theorem dX9_setWall_11 : decode cX9_setWall 11 = .ok (.aload_n 0, 1) := by decide +kernel
theorem dX9_setWall_12 : decode cX9_setWall 12 = .ok (.getfield 10, 3) := by decide +kernel
theorem dX9_setWall_15 : decode cX9_setWall 15 = .ok (.invokevirtual 52, 3) := by decide +kernel
theorem dX9_setWall_18 : decode cX9_setWall 18 = .ok (.aload_n 0, 1) := by decide +kernel
theorem dX9_setWall_19 : decode cX9_setWall 19 = .ok (.getfield 10, 3) := by decide +kernel
theorem dX9_setWall_22 : decode cX9_setWall 22 = .ok (.getfield 81, 3) := by decide +kernel
theorem dX9_setWall_25 : decode cX9_setWall 25 = .ok (.getfield 90, 3) := by decide +kernel
theorem dX9_setWall_28 : decode cX9_setWall 28 = .ok (.iload_n 1, 1) := by decide +kernel
theorem dX9_setWall_29 : decode cX9_setWall 29 = .ok (.iload_n 2, 1) := by decide +kernel
theorem dX9_setWall_30 : decode cX9_setWall 30 = .ok (.ifCond .eq 7, 3) := by decide +kernel
theorem dX9_setWall_33 : decode cX9_setWall 33 = .ok (.iconst 1, 1) := by decide +kernel
theorem dX9_setWall_34 : decode cX9_setWall 34 = .ok (.goto 4, 3) := by decide +kernel
theorem dX9_setWall_37 : decode cX9_setWall 37 = .ok (.iconst 0, 1) := by decide +kernel
theorem dX9_setWall_38 : decode cX9_setWall 38 = .ok (.iastore, 1) := by decide +kernel
theorem dX9_setWall_39 : decode cX9_setWall 39 = .ok (.aload_n 0, 1) := by decide +kernel
theorem dX9_setWall_40 : decode cX9_setWall 40 = .ok (.getfield 10, 3) := by decide +kernel
theorem dX9_setWall_43 : decode cX9_setWall 43 = .ok (.getfield 81, 3) := by decide +kernel
theorem dX9_setWall_46 : decode cX9_setWall 46 = .ok (.getfield 90, 3) := by decide +kernel
theorem dX9_setWall_49 : decode cX9_setWall 49 = .ok (.invokestatic 93, 3) := by decide +kernel
theorem dX9_setWall_52 : decode cX9_setWall 52 = .ok (.ireturn, 1) := by decide +kernel
theorem dX9_addTool_0 : decode cX9_addTool 0 = .ok (.aload_n 0, 1) := by decide +kernel
theorem dX9_addTool_1 : decode cX9_addTool 1 = .ok (.iload_n 1, 1) := by decide +kernel
theorem dX9_addTool_2 : decode cX9_addTool 2 = .ok (.invokevirtual 97, 3) := by decide +kernel
theorem dX9_addTool_5 : decode cX9_addTool 5 = .ok (.invokestatic 48, 3) := by decide +kernel
theorem dX9_addTool_8 : decode cX9_addTool 8 = .ok (.aload_n 0, 1) := by decide +kernel
theorem dX9_addTool_9 : decode cX9_addTool 9 = .ok (.getfield 19, 3) := by decide +kernel
theorem dX9_addTool_12 : decode cX9_addTool 12 = .ok (.aload_n 0, 1) := by decide +kernel
theorem dX9_addTool_13 : decode cX9_addTool 13 = .ok (.getfield 10, 3) := by decide +kernel
theorem dX9_addTool_16 : decode cX9_addTool 16 = .ok (.invokevirtual 52, 3) := by decide +kernel
theorem dX9_addTool_19 : decode cX9_addTool 19 = .ok (.aload_n 0, 1) := by decide +kernel
theorem dX9_addTool_20 : decode cX9_addTool 20 = .ok (.getfield 10, 3) := by decide +kernel
theorem dX9_addTool_23 : decode cX9_addTool 23 = .ok (.getfield 100, 3) := by decide +kernel
theorem dX9_addTool_26 : decode cX9_addTool 26 = .ok (.iload_n 1, 1) := by decide +kernel
theorem dX9_addTool_27 : decode cX9_addTool 27 = .ok (.invokevirtual 104, 3) := by decide +kernel
theorem dX9_addTool_30 : decode cX9_addTool 30 = .ok (.aload_n 0, 1) := by decide +kernel
theorem dX9_addTool_31 : decode cX9_addTool 31 = .ok (.getfield 10, 3) := by decide +kernel
theorem dX9_addTool_34 : decode cX9_addTool 34 = .ok (.getfield 100, 3) := by decide +kernel
theorem dX9_addTool_37 : decode cX9_addTool 37 = .ok (.getfield 109, 3) := by decide +kernel
theorem dX9_addTool_40 : decode cX9_addTool 40 = .ok (.iconst 1, 1) := by decide +kernel
theorem dX9_addTool_41 : decode cX9_addTool 41 = .ok (.isub, 1) := by decide +kernel
theorem dX9_addTool_42 : decode cX9_addTool 42 = .ok (.ireturn, 1) := by decide +kernel
theorem dX9_carve_0 : decode cX9_carve 0 = .ok (.aload_n 0, 1) := by decide +kernel
theorem dX9_carve_1 : decode cX9_carve 1 = .ok (.iload_n 1, 1) := by decide +kernel
theorem dX9_carve_2 : decode cX9_carve 2 = .ok (.iload_n 2, 1) := by decide +kernel
theorem dX9_carve_3 : decode cX9_carve 3 = .ok (.iload_n 3, 1) := by decide +kernel
theorem dX9_carve_4 : decode cX9_carve 4 = .ok (.iload 4, 2) := by decide +kernel
theorem dX9_carve_6 : decode cX9_carve 6 = .ok (.invokevirtual 112, 3) := by decide +kernel
theorem dX9_carve_9 : decode cX9_carve 9 = .ok (.invokestatic 48, 3) := by decide +kernel
theorem dX9_carve_12 : decode cX9_carve 12 = .ok (.aload_n 0, 1) := by decide +kernel
theorem dX9_carve_13 : decode cX9_carve 13 = .ok (.getfield 19, 3) := by decide +kernel
theorem dX9_carve_16 : decode cX9_carve 16 = .ok (.aload_n 0, 1) := by decide +kernel
theorem dX9_carve_17 : decode cX9_carve 17 = .ok (.getfield 10, 3) := by decide +kernel
theorem dX9_carve_20 : decode cX9_carve 20 = .ok (.invokevirtual 52, 3) := by decide +kernel
theorem dX9_carve_23 : decode cX9_carve 23 = .ok (.aload_n 0, 1) := by decide +kernel
theorem dX9_carve_24 : decode cX9_carve 24 = .ok (.getfield 10, 3) := by decide +kernel
theorem dX9_carve_27 : decode cX9_carve 27 = .ok (.iload_n 1, 1) := by decide +kernel
theorem dX9_carve_28 : decode cX9_carve 28 = .ok (.iload_n 2, 1) := by decide +kernel
theorem dX9_carve_29 : decode cX9_carve 29 = .ok (.iload_n 3, 1) := by decide +kernel
theorem dX9_carve_30 : decode cX9_carve 30 = .ok (.iload 4, 2) := by decide +kernel
theorem dX9_carve_32 : decode cX9_carve 32 = .ok (.invokevirtual 116, 3) := by decide +kernel
theorem dX9_carve_35 : decode cX9_carve 35 = .ok (.ireturn, 1) := by decide +kernel
theorem dX9_recycle_0 : decode cX9_recycle 0 = .ok (.aload_n 0, 1) := by decide +kernel
theorem dX9_recycle_1 : decode cX9_recycle 1 = .ok (.getfield 19, 3) := by decide +kernel
theorem dX9_recycle_4 : decode cX9_recycle 4 = .ok (.aload_n 0, 1) := by decide +kernel
theorem dX9_recycle_5 : decode cX9_recycle 5 = .ok (.getfield 10, 3) := by decide +kernel
theorem dX9_recycle_8 : decode cX9_recycle 8 = .ok (.invokevirtual 52, 3) := by decide +kernel
theorem dX9_recycle_11 : decode cX9_recycle 11 = .ok (.aload_n 0, 1) := by decide +kernel
theorem dX9_recycle_12 : decode cX9_recycle 12 = .ok (.getfield 10, 3) := by decide +kernel
theorem dX9_recycle_15 : decode cX9_recycle 15 = .ok (.invokevirtual 119, 3) := by decide +kernel
theorem dX9_recycle_18 : decode cX9_recycle 18 = .ok (.ireturn, 1) := by decide +kernel
theorem dX9_hour_0 : decode cX9_hour 0 = .ok (.aload_n 0, 1) := by decide +kernel
theorem dX9_hour_1 : decode cX9_hour 1 = .ok (.getfield 19, 3) := by decide +kernel
theorem dX9_hour_4 : decode cX9_hour 4 = .ok (.aload_n 0, 1) := by decide +kernel
theorem dX9_hour_5 : decode cX9_hour 5 = .ok (.getfield 10, 3) := by decide +kernel
theorem dX9_hour_8 : decode cX9_hour 8 = .ok (.invokevirtual 52, 3) := by decide +kernel
theorem dX9_hour_11 : decode cX9_hour 11 = .ok (.aload_n 0, 1) := by decide +kernel
theorem dX9_hour_12 : decode cX9_hour 12 = .ok (.getfield 10, 3) := by decide +kernel
theorem dX9_hour_15 : decode cX9_hour 15 = .ok (.iconst 1, 1) := by decide +kernel
theorem dX9_hour_16 : decode cX9_hour 16 = .ok (.iload_n 1, 1) := by decide +kernel
theorem dX9_hour_17 : decode cX9_hour 17 = .ok (.invokevirtual 123, 3) := by decide +kernel
theorem dX9_hour_20 : decode cX9_hour 20 = .ok (.ireturn, 1) := by decide +kernel
theorem dX9_ballot_0 : decode cX9_ballot 0 = .ok (.aload_n 0, 1) := by decide +kernel
theorem dX9_ballot_1 : decode cX9_ballot 1 = .ok (.iload_n 1, 1) := by decide +kernel
theorem dX9_ballot_2 : decode cX9_ballot 2 = .ok (.iload_n 2, 1) := by decide +kernel
theorem dX9_ballot_3 : decode cX9_ballot 3 = .ok (.iload_n 3, 1) := by decide +kernel
theorem dX9_ballot_4 : decode cX9_ballot 4 = .ok (.invokevirtual 127, 3) := by decide +kernel
theorem dX9_ballot_7 : decode cX9_ballot 7 = .ok (.invokestatic 48, 3) := by decide +kernel
theorem dX9_ballot_10 : decode cX9_ballot 10 = .ok (.aload_n 0, 1) := by decide +kernel
theorem dX9_ballot_11 : decode cX9_ballot 11 = .ok (.getfield 19, 3) := by decide +kernel
theorem dX9_ballot_14 : decode cX9_ballot 14 = .ok (.aload_n 0, 1) := by decide +kernel
theorem dX9_ballot_15 : decode cX9_ballot 15 = .ok (.getfield 10, 3) := by decide +kernel
theorem dX9_ballot_18 : decode cX9_ballot 18 = .ok (.invokevirtual 52, 3) := by decide +kernel
theorem dX9_ballot_21 : decode cX9_ballot 21 = .ok (.aload_n 0, 1) := by decide +kernel
theorem dX9_ballot_22 : decode cX9_ballot 22 = .ok (.getfield 10, 3) := by decide +kernel
theorem dX9_ballot_25 : decode cX9_ballot 25 = .ok (.getfield 131, 3) := by decide +kernel
theorem dX9_ballot_28 : decode cX9_ballot 28 = .ok (.iload_n 1, 1) := by decide +kernel
theorem dX9_ballot_29 : decode cX9_ballot 29 = .ok (.iload_n 2, 1) := by decide +kernel
theorem dX9_ballot_30 : decode cX9_ballot 30 = .ok (.iload_n 3, 1) := by decide +kernel
theorem dX9_ballot_31 : decode cX9_ballot 31 = .ok (.invokevirtual 135, 3) := by decide +kernel
theorem dX9_ballot_34 : decode cX9_ballot 34 = .ok (.aload_n 0, 1) := by decide +kernel
theorem dX9_ballot_35 : decode cX9_ballot 35 = .ok (.getfield 10, 3) := by decide +kernel
theorem dX9_ballot_38 : decode cX9_ballot 38 = .ok (.getfield 131, 3) := by decide +kernel
theorem dX9_ballot_41 : decode cX9_ballot 41 = .ok (.getfield 140, 3) := by decide +kernel
theorem dX9_ballot_44 : decode cX9_ballot 44 = .ok (.ireturn, 1) := by decide +kernel
theorem dX9_block_0 : decode cX9_block 0 = .ok (.iload_n 1, 1) := by decide +kernel
theorem dX9_block_1 : decode cX9_block 1 = .ok (.invokestatic 87, 3) := by decide +kernel
theorem dX9_block_4 : decode cX9_block 4 = .ok (.invokestatic 48, 3) := by decide +kernel
theorem dX9_block_7 : decode cX9_block 7 = .ok (.iload_n 2, 1) := by decide +kernel
theorem dX9_block_8 : decode cX9_block 8 = .ok (.iconst 0, 1) := by decide +kernel
theorem dX9_block_9 : decode cX9_block 9 = .ok (.iconst 5, 1) := by decide +kernel
theorem dX9_block_10 : decode cX9_block 10 = .ok (.invokestatic 141, 3) := by decide +kernel
theorem dX9_block_13 : decode cX9_block 13 = .ok (.ifCond .eq 12, 3) := by decide +kernel
theorem dX9_block_16 : decode cX9_block 16 = .ok (.iload_n 3, 1) := by decide +kernel
theorem dX9_block_17 : decode cX9_block 17 = .ok (.iconst 0, 1) := by decide +kernel
theorem dX9_block_18 : decode cX9_block 18 = .ok (.iconst 2, 1) := by decide +kernel
theorem dX9_block_19 : decode cX9_block 19 = .ok (.invokestatic 141, 3) := by decide +kernel
theorem dX9_block_22 : decode cX9_block 22 = .ok (.ifCond .ne 13, 3) := by decide +kernel
theorem dX9_block_25 : decode cX9_block 25 = .ok (.new 145, 3) := by decide +kernel
theorem dX9_block_28 : decode cX9_block 28 = .ok (.dup, 1) := by decide +kernel
theorem dX9_block_29 : decode cX9_block 29 = .ok (.ldc 147, 2) := by decide +kernel
theorem dX9_block_31 : decode cX9_block 31 = .ok (.invokespecial 149, 3) := by decide +kernel
theorem dX9_block_34 : decode cX9_block 34 = .ok (.athrow, 1) := by decide +kernel
theorem dX9_block_35 : decode cX9_block 35 = .ok (.aload_n 0, 1) := by decide +kernel
theorem dX9_block_36 : decode cX9_block 36 = .ok (.getfield 10, 3) := by decide +kernel
theorem dX9_block_39 : decode cX9_block 39 = .ok (.getfield 81, 3) := by decide +kernel
theorem dX9_block_42 : decode cX9_block 42 = .ok (.iload_n 1, 1) := by decide +kernel
theorem dX9_block_43 : decode cX9_block 43 = .ok (.iload_n 2, 1) := by decide +kernel
theorem dX9_block_44 : decode cX9_block 44 = .ok (.invokevirtual 152, 3) := by decide +kernel
theorem dX9_block_47 : decode cX9_block 47 = .ok (.ifCond .ne 5, 3) := by decide +kernel
theorem dX9_block_50 : decode cX9_block 50 = .ok (.iconst (-1), 1) := by decide +kernel
theorem dX9_block_51 : decode cX9_block 51 = .ok (.ireturn, 1) := by decide +kernel
theorem dX9_block_52 : decode cX9_block 52 = .ok (.iload_n 3, 1) := by decide +kernel
theorem dX9_block_53 : decode cX9_block 53 = .ok (.lookupswitch 61 #[(0, 27), (1, 44)], 27) := by decide +kernel
theorem dX9_block_80 : decode cX9_block 80 = .ok (.aload_n 0, 1) := by decide +kernel
theorem dX9_block_81 : decode cX9_block 81 = .ok (.getfield 10, 3) := by decide +kernel
theorem dX9_block_84 : decode cX9_block 84 = .ok (.getfield 81, 3) := by decide +kernel
theorem dX9_block_87 : decode cX9_block 87 = .ok (.getfield 156, 3) := by decide +kernel
theorem dX9_block_90 : decode cX9_block 90 = .ok (.iload_n 1, 1) := by decide +kernel
theorem dX9_block_91 : decode cX9_block 91 = .ok (.iload_n 2, 1) := by decide +kernel
theorem dX9_block_92 : decode cX9_block 92 = .ok (.invokestatic 159, 3) := by decide +kernel
theorem dX9_block_95 : decode cX9_block 95 = .ok (.iaload, 1) := by decide +kernel
theorem dX9_block_96 : decode cX9_block 96 = .ok (.ireturn, 1) := by decide +kernel
theorem dX9_block_97 : decode cX9_block 97 = .ok (.aload_n 0, 1) := by decide +kernel
theorem dX9_block_98 : decode cX9_block 98 = .ok (.getfield 10, 3) := by decide +kernel
theorem dX9_block_101 : decode cX9_block 101 = .ok (.getfield 81, 3) := by decide +kernel
theorem dX9_block_104 : decode cX9_block 104 = .ok (.getfield 162, 3) := by decide +kernel
theorem dX9_block_107 : decode cX9_block 107 = .ok (.iload_n 1, 1) := by decide +kernel
theorem dX9_block_108 : decode cX9_block 108 = .ok (.iload_n 2, 1) := by decide +kernel
theorem dX9_block_109 : decode cX9_block 109 = .ok (.invokestatic 159, 3) := by decide +kernel
theorem dX9_block_112 : decode cX9_block 112 = .ok (.iaload, 1) := by decide +kernel
theorem dX9_block_113 : decode cX9_block 113 = .ok (.ireturn, 1) := by decide +kernel
theorem dX9_block_114 : decode cX9_block 114 = .ok (.aload_n 0, 1) := by decide +kernel
theorem dX9_block_115 : decode cX9_block 115 = .ok (.getfield 10, 3) := by decide +kernel
theorem dX9_block_118 : decode cX9_block 118 = .ok (.getfield 81, 3) := by decide +kernel
theorem dX9_block_121 : decode cX9_block 121 = .ok (.iload_n 1, 1) := by decide +kernel
theorem dX9_block_122 : decode cX9_block 122 = .ok (.iload_n 2, 1) := by decide +kernel
theorem dX9_block_123 : decode cX9_block 123 = .ok (.aload_n 0, 1) := by decide +kernel
theorem dX9_block_124 : decode cX9_block 124 = .ok (.getfield 10, 3) := by decide +kernel
theorem dX9_block_127 : decode cX9_block 127 = .ok (.getfield 165, 3) := by decide +kernel
theorem dX9_block_130 : decode cX9_block 130 = .ok (.invokevirtual 168, 3) := by decide +kernel
theorem dX9_block_133 : decode cX9_block 133 = .ok (.ireturn, 1) := by decide +kernel
theorem dX9_site_0 : decode cX9_site 0 = .ok (.iload_n 1, 1) := by decide +kernel
theorem dX9_site_1 : decode cX9_site 1 = .ok (.invokestatic 87, 3) := by decide +kernel
theorem dX9_site_4 : decode cX9_site 4 = .ok (.invokestatic 48, 3) := by decide +kernel
theorem dX9_site_7 : decode cX9_site 7 = .ok (.iload_n 2, 1) := by decide +kernel
theorem dX9_site_8 : decode cX9_site 8 = .ok (.tableswitch 100 0 4 #[36, 49, 61, 74, 87], 36) := by decide +kernel
theorem dX9_site_44 : decode cX9_site 44 = .ok (.aload_n 0, 1) := by decide +kernel
theorem dX9_site_45 : decode cX9_site 45 = .ok (.getfield 10, 3) := by decide +kernel
theorem dX9_site_48 : decode cX9_site 48 = .ok (.getfield 81, 3) := by decide +kernel
theorem dX9_site_51 : decode cX9_site 51 = .ok (.getfield 84, 3) := by decide +kernel
theorem dX9_site_54 : decode cX9_site 54 = .ok (.iload_n 1, 1) := by decide +kernel
theorem dX9_site_55 : decode cX9_site 55 = .ok (.iaload, 1) := by decide +kernel
theorem dX9_site_56 : decode cX9_site 56 = .ok (.ireturn, 1) := by decide +kernel
theorem dX9_site_57 : decode cX9_site 57 = .ok (.aload_n 0, 1) := by decide +kernel
theorem dX9_site_58 : decode cX9_site 58 = .ok (.getfield 10, 3) := by decide +kernel
theorem dX9_site_61 : decode cX9_site 61 = .ok (.getfield 81, 3) := by decide +kernel
theorem dX9_site_64 : decode cX9_site 64 = .ok (.iload_n 1, 1) := by decide +kernel
theorem dX9_site_65 : decode cX9_site 65 = .ok (.invokevirtual 171, 3) := by decide +kernel
theorem dX9_site_68 : decode cX9_site 68 = .ok (.ireturn, 1) := by decide +kernel
theorem dX9_site_69 : decode cX9_site 69 = .ok (.aload_n 0, 1) := by decide +kernel
theorem dX9_site_70 : decode cX9_site 70 = .ok (.getfield 10, 3) := by decide +kernel
theorem dX9_site_73 : decode cX9_site 73 = .ok (.getfield 81, 3) := by decide +kernel
theorem dX9_site_76 : decode cX9_site 76 = .ok (.getfield 90, 3) := by decide +kernel
theorem dX9_site_79 : decode cX9_site 79 = .ok (.iload_n 1, 1) := by decide +kernel
theorem dX9_site_80 : decode cX9_site 80 = .ok (.iaload, 1) := by decide +kernel
theorem dX9_site_81 : decode cX9_site 81 = .ok (.ireturn, 1) := by decide +kernel
theorem dX9_site_82 : decode cX9_site 82 = .ok (.aload_n 0, 1) := by decide +kernel
theorem dX9_site_83 : decode cX9_site 83 = .ok (.getfield 10, 3) := by decide +kernel
theorem dX9_site_86 : decode cX9_site 86 = .ok (.getfield 81, 3) := by decide +kernel
theorem dX9_site_89 : decode cX9_site 89 = .ok (.getfield 174, 3) := by decide +kernel
theorem dX9_site_92 : decode cX9_site 92 = .ok (.iload_n 1, 1) := by decide +kernel
theorem dX9_site_93 : decode cX9_site 93 = .ok (.iaload, 1) := by decide +kernel
theorem dX9_site_94 : decode cX9_site 94 = .ok (.ireturn, 1) := by decide +kernel
theorem dX9_site_95 : decode cX9_site 95 = .ok (.aload_n 0, 1) := by decide +kernel
theorem dX9_site_96 : decode cX9_site 96 = .ok (.getfield 10, 3) := by decide +kernel
theorem dX9_site_99 : decode cX9_site 99 = .ok (.getfield 81, 3) := by decide +kernel
theorem dX9_site_102 : decode cX9_site 102 = .ok (.getfield 177, 3) := by decide +kernel
theorem dX9_site_105 : decode cX9_site 105 = .ok (.iload_n 1, 1) := by decide +kernel
theorem dX9_site_106 : decode cX9_site 106 = .ok (.iaload, 1) := by decide +kernel
theorem dX9_site_107 : decode cX9_site 107 = .ok (.ireturn, 1) := by decide +kernel
theorem dX9_site_108 : decode cX9_site 108 = .ok (.new 145, 3) := by decide +kernel
theorem dX9_site_111 : decode cX9_site 111 = .ok (.dup, 1) := by decide +kernel
theorem dX9_site_112 : decode cX9_site 112 = .ok (.ldc 180, 2) := by decide +kernel
theorem dX9_site_114 : decode cX9_site 114 = .ok (.invokespecial 149, 3) := by decide +kernel
theorem dX9_site_117 : decode cX9_site 117 = .ok (.athrow, 1) := by decide +kernel
theorem dX9_tool_0 : decode cX9_tool 0 = .ok (.aload_n 0, 1) := by decide +kernel
theorem dX9_tool_1 : decode cX9_tool 1 = .ok (.iload_n 1, 1) := by decide +kernel
theorem dX9_tool_2 : decode cX9_tool 2 = .ok (.invokevirtual 182, 3) := by decide +kernel
theorem dX9_tool_5 : decode cX9_tool 5 = .ok (.ifCond .ne 13, 3) := by decide +kernel
theorem dX9_tool_8 : decode cX9_tool 8 = .ok (.new 186, 3) := by decide +kernel
theorem dX9_tool_11 : decode cX9_tool 11 = .ok (.dup, 1) := by decide +kernel
theorem dX9_tool_12 : decode cX9_tool 12 = .ok (.ldc 188, 2) := by decide +kernel
theorem dX9_tool_14 : decode cX9_tool 14 = .ok (.invokespecial 190, 3) := by decide +kernel
theorem dX9_tool_17 : decode cX9_tool 17 = .ok (.athrow, 1) := by decide +kernel
theorem dX9_tool_18 : decode cX9_tool 18 = .ok (.iload_n 2, 1) := by decide +kernel
theorem dX9_tool_19 : decode cX9_tool 19 = .ok (.tableswitch 64 0 2 #[25, 38, 51], 25) := by decide +kernel
theorem dX9_tool_44 : decode cX9_tool 44 = .ok (.aload_n 0, 1) := by decide +kernel
theorem dX9_tool_45 : decode cX9_tool 45 = .ok (.getfield 10, 3) := by decide +kernel
theorem dX9_tool_48 : decode cX9_tool 48 = .ok (.getfield 100, 3) := by decide +kernel
theorem dX9_tool_51 : decode cX9_tool 51 = .ok (.getfield 191, 3) := by decide +kernel
theorem dX9_tool_54 : decode cX9_tool 54 = .ok (.iload_n 1, 1) := by decide +kernel
theorem dX9_tool_55 : decode cX9_tool 55 = .ok (.iaload, 1) := by decide +kernel
theorem dX9_tool_56 : decode cX9_tool 56 = .ok (.ireturn, 1) := by decide +kernel
theorem dX9_tool_57 : decode cX9_tool 57 = .ok (.aload_n 0, 1) := by decide +kernel
theorem dX9_tool_58 : decode cX9_tool 58 = .ok (.getfield 10, 3) := by decide +kernel
theorem dX9_tool_61 : decode cX9_tool 61 = .ok (.getfield 100, 3) := by decide +kernel
theorem dX9_tool_64 : decode cX9_tool 64 = .ok (.getfield 194, 3) := by decide +kernel
theorem dX9_tool_67 : decode cX9_tool 67 = .ok (.iload_n 1, 1) := by decide +kernel
theorem dX9_tool_68 : decode cX9_tool 68 = .ok (.iaload, 1) := by decide +kernel
theorem dX9_tool_69 : decode cX9_tool 69 = .ok (.ireturn, 1) := by decide +kernel
theorem dX9_tool_70 : decode cX9_tool 70 = .ok (.aload_n 0, 1) := by decide +kernel
theorem dX9_tool_71 : decode cX9_tool 71 = .ok (.getfield 10, 3) := by decide +kernel
theorem dX9_tool_74 : decode cX9_tool 74 = .ok (.getfield 100, 3) := by decide +kernel
theorem dX9_tool_77 : decode cX9_tool 77 = .ok (.getfield 197, 3) := by decide +kernel
theorem dX9_tool_80 : decode cX9_tool 80 = .ok (.iload_n 1, 1) := by decide +kernel
theorem dX9_tool_81 : decode cX9_tool 81 = .ok (.iaload, 1) := by decide +kernel
theorem dX9_tool_82 : decode cX9_tool 82 = .ok (.ireturn, 1) := by decide +kernel
theorem dX9_tool_83 : decode cX9_tool 83 = .ok (.new 145, 3) := by decide +kernel
theorem dX9_tool_86 : decode cX9_tool 86 = .ok (.dup, 1) := by decide +kernel
theorem dX9_tool_87 : decode cX9_tool 87 = .ok (.ldc 180, 2) := by decide +kernel
theorem dX9_tool_89 : decode cX9_tool 89 = .ok (.invokespecial 149, 3) := by decide +kernel
theorem dX9_tool_92 : decode cX9_tool 92 = .ok (.athrow, 1) := by decide +kernel
theorem dX9_whole_0 : decode cX9_whole 0 = .ok (.iload_n 1, 1) := by decide +kernel
theorem dX9_whole_1 : decode cX9_whole 1 = .ok (.tableswitch 219 0 15 #[79, 87, 87, 87, 99, 107, 118, 129, 137, 151, 159, 170, 184, 192, 200, 211], 79) := by decide +kernel
theorem dX9_whole_80 : decode cX9_whole 80 = .ok (.aload_n 0, 1) := by decide +kernel
theorem dX9_whole_81 : decode cX9_whole 81 = .ok (.getfield 10, 3) := by decide +kernel
theorem dX9_whole_84 : decode cX9_whole 84 = .ok (.getfield 59, 3) := by decide +kernel
theorem dX9_whole_87 : decode cX9_whole 87 = .ok (.ireturn, 1) := by decide +kernel
theorem dX9_whole_88 : decode cX9_whole 88 = .ok (.aload_n 0, 1) := by decide +kernel
theorem dX9_whole_89 : decode cX9_whole 89 = .ok (.getfield 10, 3) := by decide +kernel
theorem dX9_whole_92 : decode cX9_whole 92 = .ok (.getfield 71, 3) := by decide +kernel
theorem dX9_whole_95 : decode cX9_whole 95 = .ok (.iload_n 1, 1) := by decide +kernel
theorem dX9_whole_96 : decode cX9_whole 96 = .ok (.iconst 1, 1) := by decide +kernel
theorem dX9_whole_97 : decode cX9_whole 97 = .ok (.isub, 1) := by decide +kernel
theorem dX9_whole_98 : decode cX9_whole 98 = .ok (.iaload, 1) := by decide +kernel
theorem dX9_whole_99 : decode cX9_whole 99 = .ok (.ireturn, 1) := by decide +kernel
theorem dX9_whole_100 : decode cX9_whole 100 = .ok (.aload_n 0, 1) := by decide +kernel
theorem dX9_whole_101 : decode cX9_whole 101 = .ok (.getfield 10, 3) := by decide +kernel
theorem dX9_whole_104 : decode cX9_whole 104 = .ok (.getfield 200, 3) := by decide +kernel
theorem dX9_whole_107 : decode cX9_whole 107 = .ok (.ireturn, 1) := by decide +kernel
theorem dX9_whole_108 : decode cX9_whole 108 = .ok (.aload_n 0, 1) := by decide +kernel
theorem dX9_whole_109 : decode cX9_whole 109 = .ok (.getfield 10, 3) := by decide +kernel
theorem dX9_whole_112 : decode cX9_whole 112 = .ok (.getfield 81, 3) := by decide +kernel
theorem dX9_whole_115 : decode cX9_whole 115 = .ok (.invokevirtual 203, 3) := by decide +kernel
theorem dX9_whole_118 : decode cX9_whole 118 = .ok (.ireturn, 1) := by decide +kernel
theorem dX9_whole_119 : decode cX9_whole 119 = .ok (.aload_n 0, 1) := by decide +kernel
theorem dX9_whole_120 : decode cX9_whole 120 = .ok (.getfield 10, 3) := by decide +kernel
theorem dX9_whole_123 : decode cX9_whole 123 = .ok (.getfield 81, 3) := by decide +kernel
theorem dX9_whole_126 : decode cX9_whole 126 = .ok (.invokevirtual 206, 3) := by decide +kernel
theorem dX9_whole_129 : decode cX9_whole 129 = .ok (.ireturn, 1) := by decide +kernel
theorem dX9_whole_130 : decode cX9_whole 130 = .ok (.aload_n 0, 1) := by decide +kernel
theorem dX9_whole_131 : decode cX9_whole 131 = .ok (.getfield 10, 3) := by decide +kernel
theorem dX9_whole_134 : decode cX9_whole 134 = .ok (.getfield 209, 3) := by decide +kernel
theorem dX9_whole_137 : decode cX9_whole 137 = .ok (.ireturn, 1) := by decide +kernel
theorem dX9_whole_138 : decode cX9_whole 138 = .ok (.aload_n 0, 1) := by decide +kernel
theorem dX9_whole_139 : decode cX9_whole 139 = .ok (.getfield 10, 3) := by decide +kernel
theorem dX9_whole_142 : decode cX9_whole 142 = .ok (.getfield 81, 3) := by decide +kernel
theorem dX9_whole_145 : decode cX9_whole 145 = .ok (.getfield 177, 3) := by decide +kernel
theorem dX9_whole_148 : decode cX9_whole 148 = .ok (.invokestatic 93, 3) := by decide +kernel
theorem dX9_whole_151 : decode cX9_whole 151 = .ok (.ireturn, 1) := by decide +kernel
theorem dX9_whole_152 : decode cX9_whole 152 = .ok (.aload_n 0, 1) := by decide +kernel
theorem dX9_whole_153 : decode cX9_whole 153 = .ok (.getfield 10, 3) := by decide +kernel
theorem dX9_whole_156 : decode cX9_whole 156 = .ok (.getfield 212, 3) := by decide +kernel
theorem dX9_whole_159 : decode cX9_whole 159 = .ok (.ireturn, 1) := by decide +kernel
theorem dX9_whole_160 : decode cX9_whole 160 = .ok (.aload_n 0, 1) := by decide +kernel
theorem dX9_whole_161 : decode cX9_whole 161 = .ok (.getfield 10, 3) := by decide +kernel
theorem dX9_whole_164 : decode cX9_whole 164 = .ok (.getfield 100, 3) := by decide +kernel
theorem dX9_whole_167 : decode cX9_whole 167 = .ok (.getfield 109, 3) := by decide +kernel
theorem dX9_whole_170 : decode cX9_whole 170 = .ok (.ireturn, 1) := by decide +kernel
theorem dX9_whole_171 : decode cX9_whole 171 = .ok (.aload_n 0, 1) := by decide +kernel
theorem dX9_whole_172 : decode cX9_whole 172 = .ok (.getfield 10, 3) := by decide +kernel
theorem dX9_whole_175 : decode cX9_whole 175 = .ok (.getfield 81, 3) := by decide +kernel
theorem dX9_whole_178 : decode cX9_whole 178 = .ok (.getfield 90, 3) := by decide +kernel
theorem dX9_whole_181 : decode cX9_whole 181 = .ok (.invokestatic 93, 3) := by decide +kernel
theorem dX9_whole_184 : decode cX9_whole 184 = .ok (.ireturn, 1) := by decide +kernel
theorem dX9_whole_185 : decode cX9_whole 185 = .ok (.aload_n 0, 1) := by decide +kernel
theorem dX9_whole_186 : decode cX9_whole 186 = .ok (.getfield 10, 3) := by decide +kernel
theorem dX9_whole_189 : decode cX9_whole 189 = .ok (.getfield 165, 3) := by decide +kernel
theorem dX9_whole_192 : decode cX9_whole 192 = .ok (.ireturn, 1) := by decide +kernel
theorem dX9_whole_193 : decode cX9_whole 193 = .ok (.aload_n 0, 1) := by decide +kernel
theorem dX9_whole_194 : decode cX9_whole 194 = .ok (.getfield 10, 3) := by decide +kernel
theorem dX9_whole_197 : decode cX9_whole 197 = .ok (.getfield 215, 3) := by decide +kernel
theorem dX9_whole_200 : decode cX9_whole 200 = .ok (.ireturn, 1) := by decide +kernel
theorem dX9_whole_201 : decode cX9_whole 201 = .ok (.aload_n 0, 1) := by decide +kernel
theorem dX9_whole_202 : decode cX9_whole 202 = .ok (.getfield 10, 3) := by decide +kernel
theorem dX9_whole_205 : decode cX9_whole 205 = .ok (.getfield 131, 3) := by decide +kernel
theorem dX9_whole_208 : decode cX9_whole 208 = .ok (.getfield 140, 3) := by decide +kernel
theorem dX9_whole_211 : decode cX9_whole 211 = .ok (.ireturn, 1) := by decide +kernel
theorem dX9_whole_212 : decode cX9_whole 212 = .ok (.aload_n 0, 1) := by decide +kernel
theorem dX9_whole_213 : decode cX9_whole 213 = .ok (.getfield 26, 3) := by decide +kernel
theorem dX9_whole_216 : decode cX9_whole 216 = .ok (.getfield 218, 3) := by decide +kernel
theorem dX9_whole_219 : decode cX9_whole 219 = .ok (.ireturn, 1) := by decide +kernel
theorem dX9_whole_220 : decode cX9_whole 220 = .ok (.new 145, 3) := by decide +kernel
theorem dX9_whole_223 : decode cX9_whole 223 = .ok (.dup, 1) := by decide +kernel
theorem dX9_whole_224 : decode cX9_whole 224 = .ok (.ldc 180, 2) := by decide +kernel
theorem dX9_whole_226 : decode cX9_whole 226 = .ok (.invokespecial 149, 3) := by decide +kernel
theorem dX9_whole_229 : decode cX9_whole 229 = .ok (.athrow, 1) := by decide +kernel
theorem dX9_rounds_0 : decode cX9_rounds 0 = .ok (.aload_n 0, 1) := by decide +kernel
theorem dX9_rounds_1 : decode cX9_rounds 1 = .ok (.getfield 33, 3) := by decide +kernel
theorem dX9_rounds_4 : decode cX9_rounds 4 = .ok (.aload_n 0, 1) := by decide +kernel
theorem dX9_rounds_5 : decode cX9_rounds 5 = .ok (.getfield 10, 3) := by decide +kernel
theorem dX9_rounds_8 : decode cX9_rounds 8 = .ok (.getfield 81, 3) := by decide +kernel
theorem dX9_rounds_11 : decode cX9_rounds 11 = .ok (.aload_n 0, 1) := by decide +kernel
theorem dX9_rounds_12 : decode cX9_rounds 12 = .ok (.getfield 10, 3) := by decide +kernel
theorem dX9_rounds_15 : decode cX9_rounds 15 = .ok (.getfield 131, 3) := by decide +kernel
theorem dX9_rounds_18 : decode cX9_rounds 18 = .ok (.invokevirtual 221, 3) := by decide +kernel
theorem dX9_rounds_21 : decode cX9_rounds 21 = .ok (.aload_n 0, 1) := by decide +kernel
theorem dX9_rounds_22 : decode cX9_rounds 22 = .ok (.getfield 33, 3) := by decide +kernel
theorem dX9_rounds_25 : decode cX9_rounds 25 = .ok (.getfield 225, 3) := by decide +kernel
theorem dX9_rounds_28 : decode cX9_rounds 28 = .ok (.ireturn, 1) := by decide +kernel
theorem dX9_votes_0 : decode cX9_votes 0 = .ok (.iload_n 1, 1) := by decide +kernel
theorem dX9_votes_1 : decode cX9_votes 1 = .ok (.ifCond .ge 13, 3) := by decide +kernel
theorem dX9_votes_4 : decode cX9_votes 4 = .ok (.new 145, 3) := by decide +kernel
theorem dX9_votes_7 : decode cX9_votes 7 = .ok (.dup, 1) := by decide +kernel
theorem dX9_votes_8 : decode cX9_votes 8 = .ok (.ldc 228, 2) := by decide +kernel
theorem dX9_votes_10 : decode cX9_votes 10 = .ok (.invokespecial 149, 3) := by decide +kernel
theorem dX9_votes_13 : decode cX9_votes 13 = .ok (.athrow, 1) := by decide +kernel
theorem dX9_votes_14 : decode cX9_votes 14 = .ok (.iload_n 2, 1) := by decide +kernel
theorem dX9_votes_15 : decode cX9_votes 15 = .ok (.invokestatic 87, 3) := by decide +kernel
theorem dX9_votes_18 : decode cX9_votes 18 = .ok (.invokestatic 48, 3) := by decide +kernel
theorem dX9_votes_21 : decode cX9_votes 21 = .ok (.aload_n 0, 1) := by decide +kernel
theorem dX9_votes_22 : decode cX9_votes 22 = .ok (.getfield 33, 3) := by decide +kernel
theorem dX9_votes_25 : decode cX9_votes 25 = .ok (.aload_n 0, 1) := by decide +kernel
theorem dX9_votes_26 : decode cX9_votes 26 = .ok (.getfield 10, 3) := by decide +kernel
theorem dX9_votes_29 : decode cX9_votes 29 = .ok (.getfield 81, 3) := by decide +kernel
theorem dX9_votes_32 : decode cX9_votes 32 = .ok (.aload_n 0, 1) := by decide +kernel
theorem dX9_votes_33 : decode cX9_votes 33 = .ok (.getfield 10, 3) := by decide +kernel
theorem dX9_votes_36 : decode cX9_votes 36 = .ok (.getfield 131, 3) := by decide +kernel
theorem dX9_votes_39 : decode cX9_votes 39 = .ok (.invokevirtual 221, 3) := by decide +kernel
theorem dX9_votes_42 : decode cX9_votes 42 = .ok (.aload_n 0, 1) := by decide +kernel
theorem dX9_votes_43 : decode cX9_votes 43 = .ok (.getfield 33, 3) := by decide +kernel
theorem dX9_votes_46 : decode cX9_votes 46 = .ok (.iload_n 1, 1) := by decide +kernel
theorem dX9_votes_47 : decode cX9_votes 47 = .ok (.iload_n 2, 1) := by decide +kernel
theorem dX9_votes_48 : decode cX9_votes 48 = .ok (.invokevirtual 230, 3) := by decide +kernel
theorem dX9_votes_51 : decode cX9_votes 51 = .ok (.ireturn, 1) := by decide +kernel
theorem dX9_winner_0 : decode cX9_winner 0 = .ok (.aload_n 0, 1) := by decide +kernel
theorem dX9_winner_1 : decode cX9_winner 1 = .ok (.getfield 33, 3) := by decide +kernel
theorem dX9_winner_4 : decode cX9_winner 4 = .ok (.aload_n 0, 1) := by decide +kernel
theorem dX9_winner_5 : decode cX9_winner 5 = .ok (.getfield 10, 3) := by decide +kernel
theorem dX9_winner_8 : decode cX9_winner 8 = .ok (.getfield 81, 3) := by decide +kernel
theorem dX9_winner_11 : decode cX9_winner 11 = .ok (.aload_n 0, 1) := by decide +kernel
theorem dX9_winner_12 : decode cX9_winner 12 = .ok (.getfield 10, 3) := by decide +kernel
theorem dX9_winner_15 : decode cX9_winner 15 = .ok (.getfield 131, 3) := by decide +kernel
theorem dX9_winner_18 : decode cX9_winner 18 = .ok (.invokevirtual 221, 3) := by decide +kernel
theorem dX9_winner_21 : decode cX9_winner 21 = .ok (.aload_n 0, 1) := by decide +kernel
theorem dX9_winner_22 : decode cX9_winner 22 = .ok (.getfield 33, 3) := by decide +kernel
theorem dX9_winner_25 : decode cX9_winner 25 = .ok (.getfield 233, 3) := by decide +kernel
theorem dX9_winner_28 : decode cX9_winner 28 = .ok (.ireturn, 1) := by decide +kernel
theorem dX9_reason_0 : decode cX9_reason 0 = .ok (.aload_n 0, 1) := by decide +kernel
theorem dX9_reason_1 : decode cX9_reason 1 = .ok (.iload_n 1, 1) := by decide +kernel
theorem dX9_reason_2 : decode cX9_reason 2 = .ok (.iload_n 2, 1) := by decide +kernel
theorem dX9_reason_3 : decode cX9_reason 3 = .ok (.iload_n 3, 1) := by decide +kernel
theorem dX9_reason_4 : decode cX9_reason 4 = .ok (.iload 4, 2) := by decide +kernel
theorem dX9_reason_6 : decode cX9_reason 6 = .ok (.invokevirtual 236, 3) := by decide +kernel
theorem dX9_reason_9 : decode cX9_reason 9 = .ok (.invokestatic 48, 3) := by decide +kernel
theorem dX9_reason_12 : decode cX9_reason 12 = .ok (.aload_n 0, 1) := by decide +kernel
theorem dX9_reason_13 : decode cX9_reason 13 = .ok (.getfield 10, 3) := by decide +kernel
theorem dX9_reason_16 : decode cX9_reason 16 = .ok (.iload_n 1, 1) := by decide +kernel
theorem dX9_reason_17 : decode cX9_reason 17 = .ok (.iload_n 2, 1) := by decide +kernel
theorem dX9_reason_18 : decode cX9_reason 18 = .ok (.iload_n 3, 1) := by decide +kernel
theorem dX9_reason_19 : decode cX9_reason 19 = .ok (.iload 4, 2) := by decide +kernel
theorem dX9_reason_21 : decode cX9_reason 21 = .ok (.invokevirtual 239, 3) := by decide +kernel
theorem dX9_reason_24 : decode cX9_reason 24 = .ok (.ireturn, 1) := by decide +kernel
theorem dX9_volumeIn_0 : decode cX9_volumeIn 0 = .ok (.iload_n 1, 1) := by decide +kernel
theorem dX9_volumeIn_1 : decode cX9_volumeIn 1 = .ok (.invokestatic 87, 3) := by decide +kernel
theorem dX9_volumeIn_4 : decode cX9_volumeIn 4 = .ok (.invokestatic 48, 3) := by decide +kernel
theorem dX9_volumeIn_7 : decode cX9_volumeIn 7 = .ok (.iload_n 2, 1) := by decide +kernel
theorem dX9_volumeIn_8 : decode cX9_volumeIn 8 = .ok (.iconst 0, 1) := by decide +kernel
theorem dX9_volumeIn_9 : decode cX9_volumeIn 9 = .ok (.bipush 48, 2) := by decide +kernel
theorem dX9_volumeIn_11 : decode cX9_volumeIn 11 = .ok (.invokestatic 141, 3) := by decide +kernel
theorem dX9_volumeIn_14 : decode cX9_volumeIn 14 = .ok (.ifCond .ne 13, 3) := by decide +kernel
theorem dX9_volumeIn_17 : decode cX9_volumeIn 17 = .ok (.new 145, 3) := by decide +kernel
theorem dX9_volumeIn_20 : decode cX9_volumeIn 20 = .ok (.dup, 1) := by decide +kernel
theorem dX9_volumeIn_21 : decode cX9_volumeIn 21 = .ok (.ldc 242, 2) := by decide +kernel
theorem dX9_volumeIn_23 : decode cX9_volumeIn 23 = .ok (.invokespecial 149, 3) := by decide +kernel
theorem dX9_volumeIn_26 : decode cX9_volumeIn 26 = .ok (.athrow, 1) := by decide +kernel
theorem dX9_volumeIn_27 : decode cX9_volumeIn 27 = .ok (.aload_n 0, 1) := by decide +kernel
theorem dX9_volumeIn_28 : decode cX9_volumeIn 28 = .ok (.getfield 40, 3) := by decide +kernel
theorem dX9_volumeIn_31 : decode cX9_volumeIn 31 = .ok (.aload_n 0, 1) := by decide +kernel
theorem dX9_volumeIn_32 : decode cX9_volumeIn 32 = .ok (.getfield 10, 3) := by decide +kernel
theorem dX9_volumeIn_35 : decode cX9_volumeIn 35 = .ok (.getfield 81, 3) := by decide +kernel
theorem dX9_volumeIn_38 : decode cX9_volumeIn 38 = .ok (.invokevirtual 244, 3) := by decide +kernel
theorem dX9_volumeIn_41 : decode cX9_volumeIn 41 = .ok (.aload_n 0, 1) := by decide +kernel
theorem dX9_volumeIn_42 : decode cX9_volumeIn 42 = .ok (.iload_n 2, 1) := by decide +kernel
theorem dX9_volumeIn_43 : decode cX9_volumeIn 43 = .ok (.invokevirtual 248, 3) := by decide +kernel
theorem dX9_volumeIn_46 : decode cX9_volumeIn 46 = .ok (.pop, 1) := by decide +kernel
theorem dX9_volumeIn_47 : decode cX9_volumeIn 47 = .ok (.aload_n 0, 1) := by decide +kernel
theorem dX9_volumeIn_48 : decode cX9_volumeIn 48 = .ok (.getfield 40, 3) := by decide +kernel
theorem dX9_volumeIn_51 : decode cX9_volumeIn 51 = .ok (.iload_n 1, 1) := by decide +kernel
theorem dX9_volumeIn_52 : decode cX9_volumeIn 52 = .ok (.invokevirtual 171, 3) := by decide +kernel
theorem dX9_volumeIn_55 : decode cX9_volumeIn 55 = .ok (.ireturn, 1) := by decide +kernel
theorem dX9_goneIn_0 : decode cX9_goneIn 0 = .ok (.iload_n 1, 1) := by decide +kernel
theorem dX9_goneIn_1 : decode cX9_goneIn 1 = .ok (.invokestatic 87, 3) := by decide +kernel
theorem dX9_goneIn_4 : decode cX9_goneIn 4 = .ok (.invokestatic 48, 3) := by decide +kernel
theorem dX9_goneIn_7 : decode cX9_goneIn 7 = .ok (.aload_n 0, 1) := by decide +kernel
theorem dX9_goneIn_8 : decode cX9_goneIn 8 = .ok (.getfield 10, 3) := by decide +kernel
theorem dX9_goneIn_11 : decode cX9_goneIn 11 = .ok (.getfield 81, 3) := by decide +kernel
theorem dX9_goneIn_14 : decode cX9_goneIn 14 = .ok (.iload_n 1, 1) := by decide +kernel
theorem dX9_goneIn_15 : decode cX9_goneIn 15 = .ok (.iconst 0, 1) := by decide +kernel
theorem dX9_goneIn_16 : decode cX9_goneIn 16 = .ok (.invokevirtual 152, 3) := by decide +kernel
theorem dX9_goneIn_19 : decode cX9_goneIn 19 = .ok (.ifCond .ne 5, 3) := by decide +kernel
theorem dX9_goneIn_22 : decode cX9_goneIn 22 = .ok (.iconst (-1), 1) := by decide +kernel
theorem dX9_goneIn_23 : decode cX9_goneIn 23 = .ok (.ireturn, 1) := by decide +kernel
theorem dX9_goneIn_24 : decode cX9_goneIn 24 = .ok (.aload_n 0, 1) := by decide +kernel
theorem dX9_goneIn_25 : decode cX9_goneIn 25 = .ok (.getfield 40, 3) := by decide +kernel
theorem dX9_goneIn_28 : decode cX9_goneIn 28 = .ok (.aload_n 0, 1) := by decide +kernel
theorem dX9_goneIn_29 : decode cX9_goneIn 29 = .ok (.getfield 10, 3) := by decide +kernel
theorem dX9_goneIn_32 : decode cX9_goneIn 32 = .ok (.getfield 81, 3) := by decide +kernel
theorem dX9_goneIn_35 : decode cX9_goneIn 35 = .ok (.invokevirtual 244, 3) := by decide +kernel
theorem dX9_goneIn_38 : decode cX9_goneIn 38 = .ok (.iconst 1, 1) := by decide +kernel
theorem dX9_goneIn_39 : decode cX9_goneIn 39 = .ok (.istore_n 2, 1) := by decide +kernel
theorem dX9_goneIn_40 : decode cX9_goneIn 40 = .ok (.iload_n 2, 1) := by decide +kernel
theorem dX9_goneIn_41 : decode cX9_goneIn 41 = .ok (.sipush 200, 3) := by decide +kernel
theorem dX9_goneIn_44 : decode cX9_goneIn 44 = .ok (.if_icmp .gt 45, 3) := by decide +kernel
theorem dX9_goneIn_47 : decode cX9_goneIn 47 = .ok (.aload_n 0, 1) := by decide +kernel
theorem dX9_goneIn_48 : decode cX9_goneIn 48 = .ok (.getfield 40, 3) := by decide +kernel
theorem dX9_goneIn_51 : decode cX9_goneIn 51 = .ok (.aload_n 0, 1) := by decide +kernel
theorem dX9_goneIn_52 : decode cX9_goneIn 52 = .ok (.getfield 10, 3) := by decide +kernel
theorem dX9_goneIn_55 : decode cX9_goneIn 55 = .ok (.getfield 165, 3) := by decide +kernel
theorem dX9_goneIn_58 : decode cX9_goneIn 58 = .ok (.iload_n 2, 1) := by decide +kernel
theorem dX9_goneIn_59 : decode cX9_goneIn 59 = .ok (.iadd, 1) := by decide +kernel
theorem dX9_goneIn_60 : decode cX9_goneIn 60 = .ok (.iconst 1, 1) := by decide +kernel
theorem dX9_goneIn_61 : decode cX9_goneIn 61 = .ok (.isub, 1) := by decide +kernel
theorem dX9_goneIn_62 : decode cX9_goneIn 62 = .ok (.bipush 12, 2) := by decide +kernel
theorem dX9_goneIn_64 : decode cX9_goneIn 64 = .ok (.irem, 1) := by decide +kernel
theorem dX9_goneIn_65 : decode cX9_goneIn 65 = .ok (.invokevirtual 251, 3) := by decide +kernel
theorem dX9_goneIn_68 : decode cX9_goneIn 68 = .ok (.pop, 1) := by decide +kernel
theorem dX9_goneIn_69 : decode cX9_goneIn 69 = .ok (.aload_n 0, 1) := by decide +kernel
theorem dX9_goneIn_70 : decode cX9_goneIn 70 = .ok (.getfield 40, 3) := by decide +kernel
theorem dX9_goneIn_73 : decode cX9_goneIn 73 = .ok (.iload_n 1, 1) := by decide +kernel
theorem dX9_goneIn_74 : decode cX9_goneIn 74 = .ok (.iconst 0, 1) := by decide +kernel
theorem dX9_goneIn_75 : decode cX9_goneIn 75 = .ok (.invokevirtual 152, 3) := by decide +kernel
theorem dX9_goneIn_78 : decode cX9_goneIn 78 = .ok (.ifCond .ne 5, 3) := by decide +kernel
theorem dX9_goneIn_81 : decode cX9_goneIn 81 = .ok (.iload_n 2, 1) := by decide +kernel
theorem dX9_goneIn_82 : decode cX9_goneIn 82 = .ok (.ireturn, 1) := by decide +kernel
theorem dX9_goneIn_83 : decode cX9_goneIn 83 = .ok (.iinc 2 1, 3) := by decide +kernel
theorem dX9_goneIn_86 : decode cX9_goneIn 86 = .ok (.goto (-46), 3) := by decide +kernel
theorem dX9_goneIn_89 : decode cX9_goneIn 89 = .ok (.iconst (-1), 1) := by decide +kernel
theorem dX9_goneIn_90 : decode cX9_goneIn 90 = .ok (.ireturn, 1) := by decide +kernel
theorem dX9_bestWall_0 : decode cX9_bestWall 0 = .ok (.aload_n 0, 1) := by decide +kernel
theorem dX9_bestWall_1 : decode cX9_bestWall 1 = .ok (.getfield 40, 3) := by decide +kernel
theorem dX9_bestWall_4 : decode cX9_bestWall 4 = .ok (.aload_n 0, 1) := by decide +kernel
theorem dX9_bestWall_5 : decode cX9_bestWall 5 = .ok (.getfield 10, 3) := by decide +kernel
theorem dX9_bestWall_8 : decode cX9_bestWall 8 = .ok (.getfield 81, 3) := by decide +kernel
theorem dX9_bestWall_11 : decode cX9_bestWall 11 = .ok (.invokevirtual 244, 3) := by decide +kernel
theorem dX9_bestWall_14 : decode cX9_bestWall 14 = .ok (.aload_n 0, 1) := by decide +kernel
theorem dX9_bestWall_15 : decode cX9_bestWall 15 = .ok (.bipush 12, 2) := by decide +kernel
theorem dX9_bestWall_17 : decode cX9_bestWall 17 = .ok (.invokevirtual 248, 3) := by decide +kernel
theorem dX9_bestWall_20 : decode cX9_bestWall 20 = .ok (.istore_n 1, 1) := by decide +kernel
theorem dX9_bestWall_21 : decode cX9_bestWall 21 = .ok (.iconst (-1), 1) := by decide +kernel
theorem dX9_bestWall_22 : decode cX9_bestWall 22 = .ok (.istore_n 2, 1) := by decide +kernel
theorem dX9_bestWall_23 : decode cX9_bestWall 23 = .ok (.iconst 0, 1) := by decide +kernel
theorem dX9_bestWall_24 : decode cX9_bestWall 24 = .ok (.istore_n 3, 1) := by decide +kernel
theorem dX9_bestWall_25 : decode cX9_bestWall 25 = .ok (.iconst 0, 1) := by decide +kernel
theorem dX9_bestWall_26 : decode cX9_bestWall 26 = .ok (.istore 4, 2) := by decide +kernel
theorem dX9_bestWall_28 : decode cX9_bestWall 28 = .ok (.iload 4, 2) := by decide +kernel
theorem dX9_bestWall_30 : decode cX9_bestWall 30 = .ok (.bipush 8, 2) := by decide +kernel
theorem dX9_bestWall_32 : decode cX9_bestWall 32 = .ok (.if_icmp .ge 72, 3) := by decide +kernel
theorem dX9_bestWall_35 : decode cX9_bestWall 35 = .ok (.aload_n 0, 1) := by decide +kernel
theorem dX9_bestWall_36 : decode cX9_bestWall 36 = .ok (.getfield 10, 3) := by decide +kernel
theorem dX9_bestWall_39 : decode cX9_bestWall 39 = .ok (.getfield 81, 3) := by decide +kernel
theorem dX9_bestWall_42 : decode cX9_bestWall 42 = .ok (.getfield 90, 3) := by decide +kernel
theorem dX9_bestWall_45 : decode cX9_bestWall 45 = .ok (.iload 4, 2) := by decide +kernel
theorem dX9_bestWall_47 : decode cX9_bestWall 47 = .ok (.iaload, 1) := by decide +kernel
theorem dX9_bestWall_48 : decode cX9_bestWall 48 = .ok (.ifCond .ne 50, 3) := by decide +kernel
theorem dX9_bestWall_51 : decode cX9_bestWall 51 = .ok (.aload_n 0, 1) := by decide +kernel
theorem dX9_bestWall_52 : decode cX9_bestWall 52 = .ok (.getfield 40, 3) := by decide +kernel
theorem dX9_bestWall_55 : decode cX9_bestWall 55 = .ok (.aload_n 0, 1) := by decide +kernel
theorem dX9_bestWall_56 : decode cX9_bestWall 56 = .ok (.getfield 10, 3) := by decide +kernel
theorem dX9_bestWall_59 : decode cX9_bestWall 59 = .ok (.getfield 81, 3) := by decide +kernel
theorem dX9_bestWall_62 : decode cX9_bestWall 62 = .ok (.invokevirtual 244, 3) := by decide +kernel
theorem dX9_bestWall_65 : decode cX9_bestWall 65 = .ok (.aload_n 0, 1) := by decide +kernel
theorem dX9_bestWall_66 : decode cX9_bestWall 66 = .ok (.getfield 40, 3) := by decide +kernel
theorem dX9_bestWall_69 : decode cX9_bestWall 69 = .ok (.getfield 90, 3) := by decide +kernel
theorem dX9_bestWall_72 : decode cX9_bestWall 72 = .ok (.iload 4, 2) := by decide +kernel
theorem dX9_bestWall_74 : decode cX9_bestWall 74 = .ok (.iconst 1, 1) := by decide +kernel
theorem dX9_bestWall_75 : decode cX9_bestWall 75 = .ok (.iastore, 1) := by decide +kernel
theorem dX9_bestWall_76 : decode cX9_bestWall 76 = .ok (.iload_n 1, 1) := by decide +kernel
theorem dX9_bestWall_77 : decode cX9_bestWall 77 = .ok (.aload_n 0, 1) := by decide +kernel
theorem dX9_bestWall_78 : decode cX9_bestWall 78 = .ok (.bipush 12, 2) := by decide +kernel
theorem dX9_bestWall_80 : decode cX9_bestWall 80 = .ok (.invokevirtual 248, 3) := by decide +kernel
theorem dX9_bestWall_83 : decode cX9_bestWall 83 = .ok (.isub, 1) := by decide +kernel
theorem dX9_bestWall_84 : decode cX9_bestWall 84 = .ok (.istore 5, 2) := by decide +kernel
theorem dX9_bestWall_86 : decode cX9_bestWall 86 = .ok (.iload 5, 2) := by decide +kernel
theorem dX9_bestWall_88 : decode cX9_bestWall 88 = .ok (.iload_n 3, 1) := by decide +kernel
theorem dX9_bestWall_89 : decode cX9_bestWall 89 = .ok (.if_icmp .le 9, 3) := by decide +kernel
theorem dX9_bestWall_92 : decode cX9_bestWall 92 = .ok (.iload 5, 2) := by decide +kernel
theorem dX9_bestWall_94 : decode cX9_bestWall 94 = .ok (.istore_n 3, 1) := by decide +kernel
theorem dX9_bestWall_95 : decode cX9_bestWall 95 = .ok (.iload 4, 2) := by decide +kernel
theorem dX9_bestWall_97 : decode cX9_bestWall 97 = .ok (.istore_n 2, 1) := by decide +kernel
theorem dX9_bestWall_98 : decode cX9_bestWall 98 = .ok (.iinc 4 1, 3) := by decide +kernel
theorem dX9_bestWall_101 : decode cX9_bestWall 101 = .ok (.goto (-73), 3) := by decide +kernel
theorem dX9_bestWall_104 : decode cX9_bestWall 104 = .ok (.iload_n 2, 1) := by decide +kernel
theorem dX9_bestWall_105 : decode cX9_bestWall 105 = .ok (.ireturn, 1) := by decide +kernel
theorem dX9_undo_0 : decode cX9_undo 0 = .ok (.aload_n 0, 1) := by decide +kernel
theorem dX9_undo_1 : decode cX9_undo 1 = .ok (.getfield 19, 3) := by decide +kernel
theorem dX9_undo_4 : decode cX9_undo 4 = .ok (.getfield 290, 3) := by decide +kernel
theorem dX9_undo_7 : decode cX9_undo 7 = .ok (.ifCond .ne 14, 3) := by decide +kernel
theorem dX9_undo_10 : decode cX9_undo 10 = .ok (.new 261, 3) := by decide +kernel
theorem dX9_undo_13 : decode cX9_undo 13 = .ok (.dup, 1) := by decide +kernel
theorem dX9_undo_14 : decode cX9_undo 14 = .ok (.ldc_w 291, 3) := by decide +kernel
theorem dX9_undo_17 : decode cX9_undo 17 = .ok (.invokespecial 265, 3) := by decide +kernel
theorem dX9_undo_20 : decode cX9_undo 20 = .ok (.athrow, 1) := by decide +kernel
theorem dX9_undo_21 : decode cX9_undo 21 = .ok (.aload_n 0, 1) := by decide +kernel
theorem dX9_undo_22 : decode cX9_undo 22 = .ok (.getfield 19, 3) := by decide +kernel
theorem dX9_undo_25 : decode cX9_undo 25 = .ok (.aload_n 0, 1) := by decide +kernel
theorem dX9_undo_26 : decode cX9_undo 26 = .ok (.getfield 10, 3) := by decide +kernel
theorem dX9_undo_29 : decode cX9_undo 29 = .ok (.invokevirtual 293, 3) := by decide +kernel
theorem dX9_undo_32 : decode cX9_undo 32 = .ok (.aload_n 0, 1) := by decide +kernel
theorem dX9_undo_33 : decode cX9_undo 33 = .ok (.getfield 19, 3) := by decide +kernel
theorem dX9_undo_36 : decode cX9_undo 36 = .ok (.getfield 290, 3) := by decide +kernel
theorem dX9_undo_39 : decode cX9_undo 39 = .ok (.ireturn, 1) := by decide +kernel
theorem dX9_digest_0 : decode cX9_digest 0 = .ok (.ldc2_w 296, 3) := by decide +kernel
theorem dX9_digest_3 : decode cX9_digest 3 = .ok (.aload_n 0, 1) := by decide +kernel
theorem dX9_digest_4 : decode cX9_digest 4 = .ok (.getfield 19, 3) := by decide +kernel
theorem dX9_digest_7 : decode cX9_digest 7 = .ok (.getfield 290, 3) := by decide +kernel
theorem dX9_digest_10 : decode cX9_digest 10 = .ok (.invokestatic 298, 3) := by decide +kernel
theorem dX9_digest_13 : decode cX9_digest 13 = .ok (.lstore_n 1, 1) := by decide +kernel
theorem dX9_digest_14 : decode cX9_digest 14 = .ok (.iconst 0, 1) := by decide +kernel
theorem dX9_digest_15 : decode cX9_digest 15 = .ok (.istore_n 3, 1) := by decide +kernel
theorem dX9_digest_16 : decode cX9_digest 16 = .ok (.iload_n 3, 1) := by decide +kernel
theorem dX9_digest_17 : decode cX9_digest 17 = .ok (.bipush 16, 2) := by decide +kernel
theorem dX9_digest_19 : decode cX9_digest 19 = .ok (.if_icmp .ge 19, 3) := by decide +kernel
theorem dX9_digest_22 : decode cX9_digest 22 = .ok (.lload_n 1, 1) := by decide +kernel
theorem dX9_digest_23 : decode cX9_digest 23 = .ok (.aload_n 0, 1) := by decide +kernel
theorem dX9_digest_24 : decode cX9_digest 24 = .ok (.iload_n 3, 1) := by decide +kernel
theorem dX9_digest_25 : decode cX9_digest 25 = .ok (.invokevirtual 302, 3) := by decide +kernel
theorem dX9_digest_28 : decode cX9_digest 28 = .ok (.invokestatic 298, 3) := by decide +kernel
theorem dX9_digest_31 : decode cX9_digest 31 = .ok (.lstore_n 1, 1) := by decide +kernel
theorem dX9_digest_32 : decode cX9_digest 32 = .ok (.iinc 3 1, 3) := by decide +kernel
theorem dX9_digest_35 : decode cX9_digest 35 = .ok (.goto (-19), 3) := by decide +kernel
theorem dX9_digest_38 : decode cX9_digest 38 = .ok (.iconst 0, 1) := by decide +kernel
theorem dX9_digest_39 : decode cX9_digest 39 = .ok (.istore_n 3, 1) := by decide +kernel
theorem dX9_digest_40 : decode cX9_digest 40 = .ok (.iload_n 3, 1) := by decide +kernel
theorem dX9_digest_41 : decode cX9_digest 41 = .ok (.bipush 8, 2) := by decide +kernel
theorem dX9_digest_43 : decode cX9_digest 43 = .ok (.if_icmp .ge 16, 3) := by decide +kernel
theorem dX9_digest_46 : decode cX9_digest 46 = .ok (.aload_n 0, 1) := by decide +kernel
theorem dX9_digest_47 : decode cX9_digest 47 = .ok (.lload_n 1, 1) := by decide +kernel
theorem dX9_digest_48 : decode cX9_digest 48 = .ok (.iload_n 3, 1) := by decide +kernel
theorem dX9_digest_49 : decode cX9_digest 49 = .ok (.invokevirtual 305, 3) := by decide +kernel
theorem dX9_digest_52 : decode cX9_digest 52 = .ok (.lstore_n 1, 1) := by decide +kernel
theorem dX9_digest_53 : decode cX9_digest 53 = .ok (.iinc 3 1, 3) := by decide +kernel
theorem dX9_digest_56 : decode cX9_digest 56 = .ok (.goto (-16), 3) := by decide +kernel
theorem dX9_digest_59 : decode cX9_digest 59 = .ok (.iconst 0, 1) := by decide +kernel
theorem dX9_digest_60 : decode cX9_digest 60 = .ok (.istore_n 3, 1) := by decide +kernel
theorem dX9_digest_61 : decode cX9_digest 61 = .ok (.iload_n 3, 1) := by decide +kernel
theorem dX9_digest_62 : decode cX9_digest 62 = .ok (.aload_n 0, 1) := by decide +kernel
theorem dX9_digest_63 : decode cX9_digest 63 = .ok (.getfield 10, 3) := by decide +kernel
theorem dX9_digest_66 : decode cX9_digest 66 = .ok (.getfield 100, 3) := by decide +kernel
theorem dX9_digest_69 : decode cX9_digest 69 = .ok (.getfield 109, 3) := by decide +kernel
theorem dX9_digest_72 : decode cX9_digest 72 = .ok (.if_icmp .ge 36, 3) := by decide +kernel
theorem dX9_digest_75 : decode cX9_digest 75 = .ok (.iconst 0, 1) := by decide +kernel
theorem dX9_digest_76 : decode cX9_digest 76 = .ok (.istore 4, 2) := by decide +kernel
theorem dX9_digest_78 : decode cX9_digest 78 = .ok (.iload 4, 2) := by decide +kernel
theorem dX9_digest_80 : decode cX9_digest 80 = .ok (.iconst 3, 1) := by decide +kernel
theorem dX9_digest_81 : decode cX9_digest 81 = .ok (.if_icmp .ge 21, 3) := by decide +kernel
theorem dX9_digest_84 : decode cX9_digest 84 = .ok (.lload_n 1, 1) := by decide +kernel
theorem dX9_digest_85 : decode cX9_digest 85 = .ok (.aload_n 0, 1) := by decide +kernel
theorem dX9_digest_86 : decode cX9_digest 86 = .ok (.iload_n 3, 1) := by decide +kernel
theorem dX9_digest_87 : decode cX9_digest 87 = .ok (.iload 4, 2) := by decide +kernel
theorem dX9_digest_89 : decode cX9_digest 89 = .ok (.invokevirtual 308, 3) := by decide +kernel
theorem dX9_digest_92 : decode cX9_digest 92 = .ok (.invokestatic 298, 3) := by decide +kernel
theorem dX9_digest_95 : decode cX9_digest 95 = .ok (.lstore_n 1, 1) := by decide +kernel
theorem dX9_digest_96 : decode cX9_digest 96 = .ok (.iinc 4 1, 3) := by decide +kernel
theorem dX9_digest_99 : decode cX9_digest 99 = .ok (.goto (-21), 3) := by decide +kernel
theorem dX9_digest_102 : decode cX9_digest 102 = .ok (.iinc 3 1, 3) := by decide +kernel
theorem dX9_digest_105 : decode cX9_digest 105 = .ok (.goto (-44), 3) := by decide +kernel
theorem dX9_digest_108 : decode cX9_digest 108 = .ok (.aload_n 0, 1) := by decide +kernel
theorem dX9_digest_109 : decode cX9_digest 109 = .ok (.lload_n 1, 1) := by decide +kernel
theorem dX9_digest_110 : decode cX9_digest 110 = .ok (.invokevirtual 311, 3) := by decide +kernel
theorem dX9_digest_113 : decode cX9_digest 113 = .ok (.aload_n 0, 1) := by decide +kernel
theorem dX9_digest_114 : decode cX9_digest 114 = .ok (.invokevirtual 315, 3) := by decide +kernel
theorem dX9_digest_117 : decode cX9_digest 117 = .ok (.invokestatic 298, 3) := by decide +kernel
theorem dX9_digest_120 : decode cX9_digest 120 = .ok (.lreturn, 1) := by decide +kernel
theorem dX9_mix_0 : decode cX9_mix 0 = .ok (.ldc2_w 318, 3) := by decide +kernel
theorem dX9_mix_3 : decode cX9_mix 3 = .ok (.lload_n 0, 1) := by decide +kernel
theorem dX9_mix_4 : decode cX9_mix 4 = .ok (.lmul, 1) := by decide +kernel
theorem dX9_mix_5 : decode cX9_mix 5 = .ok (.iload_n 2, 1) := by decide +kernel
theorem dX9_mix_6 : decode cX9_mix 6 = .ok (.i2l, 1) := by decide +kernel
theorem dX9_mix_7 : decode cX9_mix 7 = .ok (.ladd, 1) := by decide +kernel
theorem dX9_mix_8 : decode cX9_mix 8 = .ok (.lreturn, 1) := by decide +kernel
theorem dX9_mixSite_0 : decode cX9_mixSite 0 = .ok (.lload_n 1, 1) := by decide +kernel
theorem dX9_mixSite_1 : decode cX9_mixSite 1 = .ok (.lstore 4, 2) := by decide +kernel
theorem dX9_mixSite_3 : decode cX9_mixSite 3 = .ok (.iconst 0, 1) := by decide +kernel
theorem dX9_mixSite_4 : decode cX9_mixSite 4 = .ok (.istore 6, 2) := by decide +kernel
theorem dX9_mixSite_6 : decode cX9_mixSite 6 = .ok (.iload 6, 2) := by decide +kernel
theorem dX9_mixSite_8 : decode cX9_mixSite 8 = .ok (.iconst 5, 1) := by decide +kernel
theorem dX9_mixSite_9 : decode cX9_mixSite 9 = .ok (.if_icmp .ge 23, 3) := by decide +kernel
theorem dX9_mixSite_12 : decode cX9_mixSite 12 = .ok (.lload 4, 2) := by decide +kernel
theorem dX9_mixSite_14 : decode cX9_mixSite 14 = .ok (.aload_n 0, 1) := by decide +kernel
theorem dX9_mixSite_15 : decode cX9_mixSite 15 = .ok (.iload_n 3, 1) := by decide +kernel
theorem dX9_mixSite_16 : decode cX9_mixSite 16 = .ok (.iload 6, 2) := by decide +kernel
theorem dX9_mixSite_18 : decode cX9_mixSite 18 = .ok (.invokevirtual 320, 3) := by decide +kernel
theorem dX9_mixSite_21 : decode cX9_mixSite 21 = .ok (.invokestatic 298, 3) := by decide +kernel
theorem dX9_mixSite_24 : decode cX9_mixSite 24 = .ok (.lstore 4, 2) := by decide +kernel
theorem dX9_mixSite_26 : decode cX9_mixSite 26 = .ok (.iinc 6 1, 3) := by decide +kernel
theorem dX9_mixSite_29 : decode cX9_mixSite 29 = .ok (.goto (-23), 3) := by decide +kernel
theorem dX9_mixSite_32 : decode cX9_mixSite 32 = .ok (.iconst 0, 1) := by decide +kernel
theorem dX9_mixSite_33 : decode cX9_mixSite 33 = .ok (.istore 6, 2) := by decide +kernel
theorem dX9_mixSite_35 : decode cX9_mixSite 35 = .ok (.iload 6, 2) := by decide +kernel
theorem dX9_mixSite_37 : decode cX9_mixSite 37 = .ok (.aload_n 0, 1) := by decide +kernel
theorem dX9_mixSite_38 : decode cX9_mixSite 38 = .ok (.getfield 10, 3) := by decide +kernel
theorem dX9_mixSite_41 : decode cX9_mixSite 41 = .ok (.getfield 81, 3) := by decide +kernel
theorem dX9_mixSite_44 : decode cX9_mixSite 44 = .ok (.getfield 84, 3) := by decide +kernel
theorem dX9_mixSite_47 : decode cX9_mixSite 47 = .ok (.iload_n 3, 1) := by decide +kernel
theorem dX9_mixSite_48 : decode cX9_mixSite 48 = .ok (.iaload, 1) := by decide +kernel
theorem dX9_mixSite_49 : decode cX9_mixSite 49 = .ok (.if_icmp .ge 40, 3) := by decide +kernel
theorem dX9_mixSite_52 : decode cX9_mixSite 52 = .ok (.iconst 0, 1) := by decide +kernel
theorem dX9_mixSite_53 : decode cX9_mixSite 53 = .ok (.istore 7, 2) := by decide +kernel
theorem dX9_mixSite_55 : decode cX9_mixSite 55 = .ok (.iload 7, 2) := by decide +kernel
theorem dX9_mixSite_57 : decode cX9_mixSite 57 = .ok (.iconst 3, 1) := by decide +kernel
theorem dX9_mixSite_58 : decode cX9_mixSite 58 = .ok (.if_icmp .ge 25, 3) := by decide +kernel
theorem dX9_mixSite_61 : decode cX9_mixSite 61 = .ok (.lload 4, 2) := by decide +kernel
theorem dX9_mixSite_63 : decode cX9_mixSite 63 = .ok (.aload_n 0, 1) := by decide +kernel
theorem dX9_mixSite_64 : decode cX9_mixSite 64 = .ok (.iload_n 3, 1) := by decide +kernel
theorem dX9_mixSite_65 : decode cX9_mixSite 65 = .ok (.iload 6, 2) := by decide +kernel
theorem dX9_mixSite_67 : decode cX9_mixSite 67 = .ok (.iload 7, 2) := by decide +kernel
theorem dX9_mixSite_69 : decode cX9_mixSite 69 = .ok (.invokevirtual 323, 3) := by decide +kernel
theorem dX9_mixSite_72 : decode cX9_mixSite 72 = .ok (.invokestatic 298, 3) := by decide +kernel
theorem dX9_mixSite_75 : decode cX9_mixSite 75 = .ok (.lstore 4, 2) := by decide +kernel
theorem dX9_mixSite_77 : decode cX9_mixSite 77 = .ok (.iinc 7 1, 3) := by decide +kernel
theorem dX9_mixSite_80 : decode cX9_mixSite 80 = .ok (.goto (-25), 3) := by decide +kernel
theorem dX9_mixSite_83 : decode cX9_mixSite 83 = .ok (.iinc 6 1, 3) := by decide +kernel
theorem dX9_mixSite_86 : decode cX9_mixSite 86 = .ok (.goto (-51), 3) := by decide +kernel
theorem dX9_mixSite_89 : decode cX9_mixSite 89 = .ok (.lload 4, 2) := by decide +kernel
theorem dX9_mixSite_91 : decode cX9_mixSite 91 = .ok (.lreturn, 1) := by decide +kernel
theorem dX9_mixCount_0 : decode cX9_mixCount 0 = .ok (.aload_n 0, 1) := by decide +kernel
theorem dX9_mixCount_1 : decode cX9_mixCount 1 = .ok (.getfield 33, 3) := by decide +kernel
theorem dX9_mixCount_4 : decode cX9_mixCount 4 = .ok (.aload_n 0, 1) := by decide +kernel
theorem dX9_mixCount_5 : decode cX9_mixCount 5 = .ok (.getfield 10, 3) := by decide +kernel
theorem dX9_mixCount_8 : decode cX9_mixCount 8 = .ok (.getfield 81, 3) := by decide +kernel
theorem dX9_mixCount_11 : decode cX9_mixCount 11 = .ok (.aload_n 0, 1) := by decide +kernel
theorem dX9_mixCount_12 : decode cX9_mixCount 12 = .ok (.getfield 10, 3) := by decide +kernel
theorem dX9_mixCount_15 : decode cX9_mixCount 15 = .ok (.getfield 131, 3) := by decide +kernel
theorem dX9_mixCount_18 : decode cX9_mixCount 18 = .ok (.invokevirtual 221, 3) := by decide +kernel
theorem dX9_mixCount_21 : decode cX9_mixCount 21 = .ok (.lload_n 1, 1) := by decide +kernel
theorem dX9_mixCount_22 : decode cX9_mixCount 22 = .ok (.aload_n 0, 1) := by decide +kernel
theorem dX9_mixCount_23 : decode cX9_mixCount 23 = .ok (.getfield 33, 3) := by decide +kernel
theorem dX9_mixCount_26 : decode cX9_mixCount 26 = .ok (.getfield 225, 3) := by decide +kernel
theorem dX9_mixCount_29 : decode cX9_mixCount 29 = .ok (.invokestatic 298, 3) := by decide +kernel
theorem dX9_mixCount_32 : decode cX9_mixCount 32 = .ok (.lstore_n 3, 1) := by decide +kernel
theorem dX9_mixCount_33 : decode cX9_mixCount 33 = .ok (.iconst 0, 1) := by decide +kernel
theorem dX9_mixCount_34 : decode cX9_mixCount 34 = .ok (.istore 5, 2) := by decide +kernel
theorem dX9_mixCount_36 : decode cX9_mixCount 36 = .ok (.iload 5, 2) := by decide +kernel
theorem dX9_mixCount_38 : decode cX9_mixCount 38 = .ok (.aload_n 0, 1) := by decide +kernel
theorem dX9_mixCount_39 : decode cX9_mixCount 39 = .ok (.getfield 33, 3) := by decide +kernel
theorem dX9_mixCount_42 : decode cX9_mixCount 42 = .ok (.getfield 225, 3) := by decide +kernel
theorem dX9_mixCount_45 : decode cX9_mixCount 45 = .ok (.if_icmp .ge 41, 3) := by decide +kernel
theorem dX9_mixCount_48 : decode cX9_mixCount 48 = .ok (.iconst 0, 1) := by decide +kernel
theorem dX9_mixCount_49 : decode cX9_mixCount 49 = .ok (.istore 6, 2) := by decide +kernel
theorem dX9_mixCount_51 : decode cX9_mixCount 51 = .ok (.iload 6, 2) := by decide +kernel
theorem dX9_mixCount_53 : decode cX9_mixCount 53 = .ok (.bipush 8, 2) := by decide +kernel
theorem dX9_mixCount_55 : decode cX9_mixCount 55 = .ok (.if_icmp .ge 25, 3) := by decide +kernel
theorem dX9_mixCount_58 : decode cX9_mixCount 58 = .ok (.lload_n 3, 1) := by decide +kernel
theorem dX9_mixCount_59 : decode cX9_mixCount 59 = .ok (.aload_n 0, 1) := by decide +kernel
theorem dX9_mixCount_60 : decode cX9_mixCount 60 = .ok (.getfield 33, 3) := by decide +kernel
theorem dX9_mixCount_63 : decode cX9_mixCount 63 = .ok (.iload 5, 2) := by decide +kernel
theorem dX9_mixCount_65 : decode cX9_mixCount 65 = .ok (.iload 6, 2) := by decide +kernel
theorem dX9_mixCount_67 : decode cX9_mixCount 67 = .ok (.invokevirtual 230, 3) := by decide +kernel
theorem dX9_mixCount_70 : decode cX9_mixCount 70 = .ok (.invokestatic 298, 3) := by decide +kernel
theorem dX9_mixCount_73 : decode cX9_mixCount 73 = .ok (.lstore_n 3, 1) := by decide +kernel
theorem dX9_mixCount_74 : decode cX9_mixCount 74 = .ok (.iinc 6 1, 3) := by decide +kernel
theorem dX9_mixCount_77 : decode cX9_mixCount 77 = .ok (.goto (-26), 3) := by decide +kernel
theorem dX9_mixCount_80 : decode cX9_mixCount 80 = .ok (.iinc 5 1, 3) := by decide +kernel
theorem dX9_mixCount_83 : decode cX9_mixCount 83 = .ok (.goto (-47), 3) := by decide +kernel
theorem dX9_mixCount_86 : decode cX9_mixCount 86 = .ok (.lload_n 3, 1) := by decide +kernel
theorem dX9_mixCount_87 : decode cX9_mixCount 87 = .ok (.aload_n 0, 1) := by decide +kernel
theorem dX9_mixCount_88 : decode cX9_mixCount 88 = .ok (.getfield 33, 3) := by decide +kernel
theorem dX9_mixCount_91 : decode cX9_mixCount 91 = .ok (.getfield 233, 3) := by decide +kernel
theorem dX9_mixCount_94 : decode cX9_mixCount 94 = .ok (.invokestatic 298, 3) := by decide +kernel
theorem dX9_mixCount_97 : decode cX9_mixCount 97 = .ok (.lreturn, 1) := by decide +kernel
theorem dX9_throwFor_0 : decode cX9_throwFor 0 = .ok (.iload_n 0, 1) := by decide +kernel
theorem dX9_throwFor_1 : decode cX9_throwFor 1 = .ok (.tableswitch 60 1 3 #[27, 38, 49], 27) := by decide +kernel
theorem dX9_throwFor_28 : decode cX9_throwFor 28 = .ok (.new 186, 3) := by decide +kernel
theorem dX9_throwFor_31 : decode cX9_throwFor 31 = .ok (.dup, 1) := by decide +kernel
theorem dX9_throwFor_32 : decode cX9_throwFor 32 = .ok (.ldc_w 326, 3) := by decide +kernel
theorem dX9_throwFor_35 : decode cX9_throwFor 35 = .ok (.invokespecial 190, 3) := by decide +kernel
theorem dX9_throwFor_38 : decode cX9_throwFor 38 = .ok (.athrow, 1) := by decide +kernel
theorem dX9_throwFor_39 : decode cX9_throwFor 39 = .ok (.new 145, 3) := by decide +kernel
theorem dX9_throwFor_42 : decode cX9_throwFor 42 = .ok (.dup, 1) := by decide +kernel
theorem dX9_throwFor_43 : decode cX9_throwFor 43 = .ok (.ldc_w 328, 3) := by decide +kernel
theorem dX9_throwFor_46 : decode cX9_throwFor 46 = .ok (.invokespecial 149, 3) := by decide +kernel
theorem dX9_throwFor_49 : decode cX9_throwFor 49 = .ok (.athrow, 1) := by decide +kernel
theorem dX9_throwFor_50 : decode cX9_throwFor 50 = .ok (.new 261, 3) := by decide +kernel
theorem dX9_throwFor_53 : decode cX9_throwFor 53 = .ok (.dup, 1) := by decide +kernel
theorem dX9_throwFor_54 : decode cX9_throwFor 54 = .ok (.ldc_w 330, 3) := by decide +kernel
theorem dX9_throwFor_57 : decode cX9_throwFor 57 = .ok (.invokespecial 265, 3) := by decide +kernel
theorem dX9_throwFor_60 : decode cX9_throwFor 60 = .ok (.athrow, 1) := by decide +kernel
theorem dX9_throwFor_61 : decode cX9_throwFor 61 = .ok (.return_, 1) := by decide +kernel
theorem dX9_snowRefusal_0 : decode cX9_snowRefusal 0 = .ok (.iload_n 1, 1) := by decide +kernel
theorem dX9_snowRefusal_1 : decode cX9_snowRefusal 1 = .ok (.iconst 1, 1) := by decide +kernel
theorem dX9_snowRefusal_2 : decode cX9_snowRefusal 2 = .ok (.sipush 9999, 3) := by decide +kernel
theorem dX9_snowRefusal_5 : decode cX9_snowRefusal 5 = .ok (.invokestatic 141, 3) := by decide +kernel
theorem dX9_snowRefusal_8 : decode cX9_snowRefusal 8 = .ok (.ifCond .ne 5, 3) := by decide +kernel
theorem dX9_snowRefusal_11 : decode cX9_snowRefusal 11 = .ok (.iconst 2, 1) := by decide +kernel
theorem dX9_snowRefusal_12 : decode cX9_snowRefusal 12 = .ok (.ireturn, 1) := by decide +kernel
theorem dX9_snowRefusal_13 : decode cX9_snowRefusal 13 = .ok (.aload_n 0, 1) := by decide +kernel
theorem dX9_snowRefusal_14 : decode cX9_snowRefusal 14 = .ok (.getfield 10, 3) := by decide +kernel
theorem dX9_snowRefusal_17 : decode cX9_snowRefusal 17 = .ok (.getfield 59, 3) := by decide +kernel
theorem dX9_snowRefusal_20 : decode cX9_snowRefusal 20 = .ok (.iload_n 1, 1) := by decide +kernel
theorem dX9_snowRefusal_21 : decode cX9_snowRefusal 21 = .ok (.iadd, 1) := by decide +kernel
theorem dX9_snowRefusal_22 : decode cX9_snowRefusal 22 = .ok (.sipush 9999, 3) := by decide +kernel
theorem dX9_snowRefusal_25 : decode cX9_snowRefusal 25 = .ok (.if_icmp .le 7, 3) := by decide +kernel
theorem dX9_snowRefusal_28 : decode cX9_snowRefusal 28 = .ok (.iconst 3, 1) := by decide +kernel
theorem dX9_snowRefusal_29 : decode cX9_snowRefusal 29 = .ok (.goto 4, 3) := by decide +kernel
theorem dX9_snowRefusal_32 : decode cX9_snowRefusal 32 = .ok (.iconst 0, 1) := by decide +kernel
theorem dX9_snowRefusal_33 : decode cX9_snowRefusal 33 = .ok (.ireturn, 1) := by decide +kernel
theorem dX9_pressRefusal_0 : decode cX9_pressRefusal 0 = .ok (.iload_n 1, 1) := by decide +kernel
theorem dX9_pressRefusal_1 : decode cX9_pressRefusal 1 = .ok (.iconst 0, 1) := by decide +kernel
theorem dX9_pressRefusal_2 : decode cX9_pressRefusal 2 = .ok (.iconst 2, 1) := by decide +kernel
theorem dX9_pressRefusal_3 : decode cX9_pressRefusal 3 = .ok (.invokestatic 141, 3) := by decide +kernel
theorem dX9_pressRefusal_6 : decode cX9_pressRefusal 6 = .ok (.ifCond .eq 13, 3) := by decide +kernel
theorem dX9_pressRefusal_9 : decode cX9_pressRefusal 9 = .ok (.iload_n 2, 1) := by decide +kernel
theorem dX9_pressRefusal_10 : decode cX9_pressRefusal 10 = .ok (.iconst 1, 1) := by decide +kernel
theorem dX9_pressRefusal_11 : decode cX9_pressRefusal 11 = .ok (.bipush 50, 2) := by decide +kernel
theorem dX9_pressRefusal_13 : decode cX9_pressRefusal 13 = .ok (.invokestatic 141, 3) := by decide +kernel
theorem dX9_pressRefusal_16 : decode cX9_pressRefusal 16 = .ok (.ifCond .ne 5, 3) := by decide +kernel
theorem dX9_pressRefusal_19 : decode cX9_pressRefusal 19 = .ok (.iconst 2, 1) := by decide +kernel
theorem dX9_pressRefusal_20 : decode cX9_pressRefusal 20 = .ok (.ireturn, 1) := by decide +kernel
theorem dX9_pressRefusal_21 : decode cX9_pressRefusal 21 = .ok (.aload_n 0, 1) := by decide +kernel
theorem dX9_pressRefusal_22 : decode cX9_pressRefusal 22 = .ok (.getfield 10, 3) := by decide +kernel
theorem dX9_pressRefusal_25 : decode cX9_pressRefusal 25 = .ok (.getfield 59, 3) := by decide +kernel
theorem dX9_pressRefusal_28 : decode cX9_pressRefusal 28 = .ok (.iload_n 2, 1) := by decide +kernel
theorem dX9_pressRefusal_29 : decode cX9_pressRefusal 29 = .ok (.bipush 100, 2) := by decide +kernel
theorem dX9_pressRefusal_31 : decode cX9_pressRefusal 31 = .ok (.imul, 1) := by decide +kernel
theorem dX9_pressRefusal_32 : decode cX9_pressRefusal 32 = .ok (.if_icmp .ge 7, 3) := by decide +kernel
theorem dX9_pressRefusal_35 : decode cX9_pressRefusal 35 = .ok (.iconst 1, 1) := by decide +kernel
theorem dX9_pressRefusal_36 : decode cX9_pressRefusal 36 = .ok (.goto 4, 3) := by decide +kernel
theorem dX9_pressRefusal_39 : decode cX9_pressRefusal 39 = .ok (.iconst 0, 1) := by decide +kernel
theorem dX9_pressRefusal_40 : decode cX9_pressRefusal 40 = .ok (.istore_n 3, 1) := by decide +kernel
theorem dX9_pressRefusal_41 : decode cX9_pressRefusal 41 = .ok (.iload_n 3, 1) := by decide +kernel
theorem dX9_pressRefusal_42 : decode cX9_pressRefusal 42 = .ok (.ifCond .ne 19, 3) := by decide +kernel
theorem dX9_pressRefusal_45 : decode cX9_pressRefusal 45 = .ok (.aload_n 0, 1) := by decide +kernel
theorem dX9_pressRefusal_46 : decode cX9_pressRefusal 46 = .ok (.getfield 10, 3) := by decide +kernel
theorem dX9_pressRefusal_49 : decode cX9_pressRefusal 49 = .ok (.getfield 71, 3) := by decide +kernel
theorem dX9_pressRefusal_52 : decode cX9_pressRefusal 52 = .ok (.iload_n 1, 1) := by decide +kernel
theorem dX9_pressRefusal_53 : decode cX9_pressRefusal 53 = .ok (.iaload, 1) := by decide +kernel
theorem dX9_pressRefusal_54 : decode cX9_pressRefusal 54 = .ok (.iload_n 2, 1) := by decide +kernel
theorem dX9_pressRefusal_55 : decode cX9_pressRefusal 55 = .ok (.iadd, 1) := by decide +kernel
theorem dX9_pressRefusal_56 : decode cX9_pressRefusal 56 = .ok (.bipush 50, 2) := by decide +kernel
theorem dX9_pressRefusal_58 : decode cX9_pressRefusal 58 = .ok (.if_icmp .le 7, 3) := by decide +kernel
theorem dX9_pressRefusal_61 : decode cX9_pressRefusal 61 = .ok (.iconst 3, 1) := by decide +kernel
theorem dX9_pressRefusal_62 : decode cX9_pressRefusal 62 = .ok (.goto 4, 3) := by decide +kernel
theorem dX9_pressRefusal_65 : decode cX9_pressRefusal 65 = .ok (.iconst 0, 1) := by decide +kernel
theorem dX9_pressRefusal_66 : decode cX9_pressRefusal 66 = .ok (.ireturn, 1) := by decide +kernel
theorem dX9_stackRefusal_0 : decode cX9_stackRefusal 0 = .ok (.iload_n 1, 1) := by decide +kernel
theorem dX9_stackRefusal_1 : decode cX9_stackRefusal 1 = .ok (.invokestatic 332, 3) := by decide +kernel
theorem dX9_stackRefusal_4 : decode cX9_stackRefusal 4 = .ok (.ifCond .ne 5, 3) := by decide +kernel
theorem dX9_stackRefusal_7 : decode cX9_stackRefusal 7 = .ok (.iconst 1, 1) := by decide +kernel
theorem dX9_stackRefusal_8 : decode cX9_stackRefusal 8 = .ok (.ireturn, 1) := by decide +kernel
theorem dX9_stackRefusal_9 : decode cX9_stackRefusal 9 = .ok (.iload_n 2, 1) := by decide +kernel
theorem dX9_stackRefusal_10 : decode cX9_stackRefusal 10 = .ok (.iconst 0, 1) := by decide +kernel
theorem dX9_stackRefusal_11 : decode cX9_stackRefusal 11 = .ok (.iconst 2, 1) := by decide +kernel
theorem dX9_stackRefusal_12 : decode cX9_stackRefusal 12 = .ok (.invokestatic 141, 3) := by decide +kernel
theorem dX9_stackRefusal_15 : decode cX9_stackRefusal 15 = .ok (.ifCond .ne 5, 3) := by decide +kernel
theorem dX9_stackRefusal_18 : decode cX9_stackRefusal 18 = .ok (.iconst 2, 1) := by decide +kernel
theorem dX9_stackRefusal_19 : decode cX9_stackRefusal 19 = .ok (.ireturn, 1) := by decide +kernel
theorem dX9_stackRefusal_20 : decode cX9_stackRefusal 20 = .ok (.aload_n 0, 1) := by decide +kernel
theorem dX9_stackRefusal_21 : decode cX9_stackRefusal 21 = .ok (.getfield 10, 3) := by decide +kernel
theorem dX9_stackRefusal_24 : decode cX9_stackRefusal 24 = .ok (.getfield 71, 3) := by decide +kernel
theorem dX9_stackRefusal_27 : decode cX9_stackRefusal 27 = .ok (.iload_n 2, 1) := by decide +kernel
theorem dX9_stackRefusal_28 : decode cX9_stackRefusal 28 = .ok (.iaload, 1) := by decide +kernel
theorem dX9_stackRefusal_29 : decode cX9_stackRefusal 29 = .ok (.ifCond .eq 20, 3) := by decide +kernel
theorem dX9_stackRefusal_32 : decode cX9_stackRefusal 32 = .ok (.aload_n 0, 1) := by decide +kernel
theorem dX9_stackRefusal_33 : decode cX9_stackRefusal 33 = .ok (.getfield 10, 3) := by decide +kernel
theorem dX9_stackRefusal_36 : decode cX9_stackRefusal 36 = .ok (.getfield 81, 3) := by decide +kernel
theorem dX9_stackRefusal_39 : decode cX9_stackRefusal 39 = .ok (.getfield 84, 3) := by decide +kernel
theorem dX9_stackRefusal_42 : decode cX9_stackRefusal 42 = .ok (.iload_n 1, 1) := by decide +kernel
theorem dX9_stackRefusal_43 : decode cX9_stackRefusal 43 = .ok (.iaload, 1) := by decide +kernel
theorem dX9_stackRefusal_44 : decode cX9_stackRefusal 44 = .ok (.bipush 6, 2) := by decide +kernel
theorem dX9_stackRefusal_46 : decode cX9_stackRefusal 46 = .ok (.if_icmp .lt 7, 3) := by decide +kernel
theorem dX9_stackRefusal_49 : decode cX9_stackRefusal 49 = .ok (.iconst 3, 1) := by decide +kernel
theorem dX9_stackRefusal_50 : decode cX9_stackRefusal 50 = .ok (.goto 4, 3) := by decide +kernel
theorem dX9_stackRefusal_53 : decode cX9_stackRefusal 53 = .ok (.iconst 0, 1) := by decide +kernel
theorem dX9_stackRefusal_54 : decode cX9_stackRefusal 54 = .ok (.ireturn, 1) := by decide +kernel
theorem dX9_siteRefusal_0 : decode cX9_siteRefusal 0 = .ok (.iload_n 0, 1) := by decide +kernel
theorem dX9_siteRefusal_1 : decode cX9_siteRefusal 1 = .ok (.invokestatic 332, 3) := by decide +kernel
theorem dX9_siteRefusal_4 : decode cX9_siteRefusal 4 = .ok (.ifCond .eq 7, 3) := by decide +kernel
theorem dX9_siteRefusal_7 : decode cX9_siteRefusal 7 = .ok (.iconst 0, 1) := by decide +kernel
theorem dX9_siteRefusal_8 : decode cX9_siteRefusal 8 = .ok (.goto 4, 3) := by decide +kernel
theorem dX9_siteRefusal_11 : decode cX9_siteRefusal 11 = .ok (.iconst 1, 1) := by decide +kernel
theorem dX9_siteRefusal_12 : decode cX9_siteRefusal 12 = .ok (.ireturn, 1) := by decide +kernel
theorem dX9_toolRefusal_0 : decode cX9_toolRefusal 0 = .ok (.iload_n 1, 1) := by decide +kernel
theorem dX9_toolRefusal_1 : decode cX9_toolRefusal 1 = .ok (.iconst 1, 1) := by decide +kernel
theorem dX9_toolRefusal_2 : decode cX9_toolRefusal 2 = .ok (.bipush 20, 2) := by decide +kernel
theorem dX9_toolRefusal_4 : decode cX9_toolRefusal 4 = .ok (.invokestatic 141, 3) := by decide +kernel
theorem dX9_toolRefusal_7 : decode cX9_toolRefusal 7 = .ok (.ifCond .ne 5, 3) := by decide +kernel
theorem dX9_toolRefusal_10 : decode cX9_toolRefusal 10 = .ok (.iconst 2, 1) := by decide +kernel
theorem dX9_toolRefusal_11 : decode cX9_toolRefusal 11 = .ok (.ireturn, 1) := by decide +kernel
theorem dX9_toolRefusal_12 : decode cX9_toolRefusal 12 = .ok (.aload_n 0, 1) := by decide +kernel
theorem dX9_toolRefusal_13 : decode cX9_toolRefusal 13 = .ok (.getfield 10, 3) := by decide +kernel
theorem dX9_toolRefusal_16 : decode cX9_toolRefusal 16 = .ok (.getfield 100, 3) := by decide +kernel
theorem dX9_toolRefusal_19 : decode cX9_toolRefusal 19 = .ok (.getfield 109, 3) := by decide +kernel
theorem dX9_toolRefusal_22 : decode cX9_toolRefusal 22 = .ok (.iconst 5, 1) := by decide +kernel
theorem dX9_toolRefusal_23 : decode cX9_toolRefusal 23 = .ok (.if_icmp .lt 7, 3) := by decide +kernel
theorem dX9_toolRefusal_26 : decode cX9_toolRefusal 26 = .ok (.iconst 3, 1) := by decide +kernel
theorem dX9_toolRefusal_27 : decode cX9_toolRefusal 27 = .ok (.goto 4, 3) := by decide +kernel
theorem dX9_toolRefusal_30 : decode cX9_toolRefusal 30 = .ok (.iconst 0, 1) := by decide +kernel
theorem dX9_toolRefusal_31 : decode cX9_toolRefusal 31 = .ok (.ireturn, 1) := by decide +kernel
theorem dX9_carveArgumentsRefusal_0 : decode cX9_carveArgumentsRefusal 0 = .ok (.aload_n 0, 1) := by decide +kernel
theorem dX9_carveArgumentsRefusal_1 : decode cX9_carveArgumentsRefusal 1 = .ok (.iload_n 1, 1) := by decide +kernel
theorem dX9_carveArgumentsRefusal_2 : decode cX9_carveArgumentsRefusal 2 = .ok (.invokevirtual 182, 3) := by decide +kernel
theorem dX9_carveArgumentsRefusal_5 : decode cX9_carveArgumentsRefusal 5 = .ok (.ifCond .eq 10, 3) := by decide +kernel
theorem dX9_carveArgumentsRefusal_8 : decode cX9_carveArgumentsRefusal 8 = .ok (.iload_n 2, 1) := by decide +kernel
theorem dX9_carveArgumentsRefusal_9 : decode cX9_carveArgumentsRefusal 9 = .ok (.invokestatic 332, 3) := by decide +kernel
theorem dX9_carveArgumentsRefusal_12 : decode cX9_carveArgumentsRefusal 12 = .ok (.ifCond .ne 5, 3) := by decide +kernel
theorem dX9_carveArgumentsRefusal_15 : decode cX9_carveArgumentsRefusal 15 = .ok (.iconst 1, 1) := by decide +kernel
theorem dX9_carveArgumentsRefusal_16 : decode cX9_carveArgumentsRefusal 16 = .ok (.ireturn, 1) := by decide +kernel
theorem dX9_carveArgumentsRefusal_17 : decode cX9_carveArgumentsRefusal 17 = .ok (.iload_n 3, 1) := by decide +kernel
theorem dX9_carveArgumentsRefusal_18 : decode cX9_carveArgumentsRefusal 18 = .ok (.iconst 0, 1) := by decide +kernel
theorem dX9_carveArgumentsRefusal_19 : decode cX9_carveArgumentsRefusal 19 = .ok (.iconst 5, 1) := by decide +kernel
theorem dX9_carveArgumentsRefusal_20 : decode cX9_carveArgumentsRefusal 20 = .ok (.invokestatic 141, 3) := by decide +kernel
theorem dX9_carveArgumentsRefusal_23 : decode cX9_carveArgumentsRefusal 23 = .ok (.ifCond .eq 18, 3) := by decide +kernel
theorem dX9_carveArgumentsRefusal_26 : decode cX9_carveArgumentsRefusal 26 = .ok (.iload 4, 2) := by decide +kernel
theorem dX9_carveArgumentsRefusal_28 : decode cX9_carveArgumentsRefusal 28 = .ok (.iconst 1, 1) := by decide +kernel
theorem dX9_carveArgumentsRefusal_29 : decode cX9_carveArgumentsRefusal 29 = .ok (.bipush 100, 2) := by decide +kernel
theorem dX9_carveArgumentsRefusal_31 : decode cX9_carveArgumentsRefusal 31 = .ok (.invokestatic 141, 3) := by decide +kernel
theorem dX9_carveArgumentsRefusal_34 : decode cX9_carveArgumentsRefusal 34 = .ok (.ifCond .eq 7, 3) := by decide +kernel
theorem dX9_carveArgumentsRefusal_37 : decode cX9_carveArgumentsRefusal 37 = .ok (.iconst 1, 1) := by decide +kernel
theorem dX9_carveArgumentsRefusal_38 : decode cX9_carveArgumentsRefusal 38 = .ok (.goto 4, 3) := by decide +kernel
theorem dX9_carveArgumentsRefusal_41 : decode cX9_carveArgumentsRefusal 41 = .ok (.iconst 0, 1) := by decide +kernel
theorem dX9_carveArgumentsRefusal_42 : decode cX9_carveArgumentsRefusal 42 = .ok (.istore 5, 2) := by decide +kernel
theorem dX9_carveArgumentsRefusal_44 : decode cX9_carveArgumentsRefusal 44 = .ok (.iload 5, 2) := by decide +kernel
theorem dX9_carveArgumentsRefusal_46 : decode cX9_carveArgumentsRefusal 46 = .ok (.ifCond .eq 7, 3) := by decide +kernel
theorem dX9_carveArgumentsRefusal_49 : decode cX9_carveArgumentsRefusal 49 = .ok (.iconst 0, 1) := by decide +kernel
theorem dX9_carveArgumentsRefusal_50 : decode cX9_carveArgumentsRefusal 50 = .ok (.goto 4, 3) := by decide +kernel
theorem dX9_carveArgumentsRefusal_53 : decode cX9_carveArgumentsRefusal 53 = .ok (.iconst 2, 1) := by decide +kernel
theorem dX9_carveArgumentsRefusal_54 : decode cX9_carveArgumentsRefusal 54 = .ok (.ireturn, 1) := by decide +kernel
theorem dX9_carveRefusal_0 : decode cX9_carveRefusal 0 = .ok (.aload_n 0, 1) := by decide +kernel
theorem dX9_carveRefusal_1 : decode cX9_carveRefusal 1 = .ok (.iload_n 1, 1) := by decide +kernel
theorem dX9_carveRefusal_2 : decode cX9_carveRefusal 2 = .ok (.iload_n 2, 1) := by decide +kernel
theorem dX9_carveRefusal_3 : decode cX9_carveRefusal 3 = .ok (.iload_n 3, 1) := by decide +kernel
theorem dX9_carveRefusal_4 : decode cX9_carveRefusal 4 = .ok (.iload 4, 2) := by decide +kernel
theorem dX9_carveRefusal_6 : decode cX9_carveRefusal 6 = .ok (.invokevirtual 236, 3) := by decide +kernel
theorem dX9_carveRefusal_9 : decode cX9_carveRefusal 9 = .ok (.istore 5, 2) := by decide +kernel
theorem dX9_carveRefusal_11 : decode cX9_carveRefusal 11 = .ok (.iload 5, 2) := by decide +kernel
theorem dX9_carveRefusal_13 : decode cX9_carveRefusal 13 = .ok (.ifCond .eq 6, 3) := by decide +kernel
theorem dX9_carveRefusal_16 : decode cX9_carveRefusal 16 = .ok (.iload 5, 2) := by decide +kernel
theorem dX9_carveRefusal_18 : decode cX9_carveRefusal 18 = .ok (.ireturn, 1) := by decide +kernel
theorem dX9_carveRefusal_19 : decode cX9_carveRefusal 19 = .ok (.aload_n 0, 1) := by decide +kernel
theorem dX9_carveRefusal_20 : decode cX9_carveRefusal 20 = .ok (.getfield 10, 3) := by decide +kernel
theorem dX9_carveRefusal_23 : decode cX9_carveRefusal 23 = .ok (.iload_n 1, 1) := by decide +kernel
theorem dX9_carveRefusal_24 : decode cX9_carveRefusal 24 = .ok (.iload_n 2, 1) := by decide +kernel
theorem dX9_carveRefusal_25 : decode cX9_carveRefusal 25 = .ok (.iload_n 3, 1) := by decide +kernel
theorem dX9_carveRefusal_26 : decode cX9_carveRefusal 26 = .ok (.iload 4, 2) := by decide +kernel
theorem dX9_carveRefusal_28 : decode cX9_carveRefusal 28 = .ok (.invokevirtual 239, 3) := by decide +kernel
theorem dX9_carveRefusal_31 : decode cX9_carveRefusal 31 = .ok (.ifCond .ne 7, 3) := by decide +kernel
theorem dX9_carveRefusal_34 : decode cX9_carveRefusal 34 = .ok (.iconst 0, 1) := by decide +kernel
theorem dX9_carveRefusal_35 : decode cX9_carveRefusal 35 = .ok (.goto 4, 3) := by decide +kernel
theorem dX9_carveRefusal_38 : decode cX9_carveRefusal 38 = .ok (.iconst 3, 1) := by decide +kernel
theorem dX9_carveRefusal_39 : decode cX9_carveRefusal 39 = .ok (.ireturn, 1) := by decide +kernel
theorem dX9_ballotRefusal_0 : decode cX9_ballotRefusal 0 = .ok (.iload_n 1, 1) := by decide +kernel
theorem dX9_ballotRefusal_1 : decode cX9_ballotRefusal 1 = .ok (.invokestatic 332, 3) := by decide +kernel
theorem dX9_ballotRefusal_4 : decode cX9_ballotRefusal 4 = .ok (.ifCond .eq 17, 3) := by decide +kernel
theorem dX9_ballotRefusal_7 : decode cX9_ballotRefusal 7 = .ok (.iload_n 2, 1) := by decide +kernel
theorem dX9_ballotRefusal_8 : decode cX9_ballotRefusal 8 = .ok (.invokestatic 335, 3) := by decide +kernel
theorem dX9_ballotRefusal_11 : decode cX9_ballotRefusal 11 = .ok (.ifCond .eq 10, 3) := by decide +kernel
theorem dX9_ballotRefusal_14 : decode cX9_ballotRefusal 14 = .ok (.iload_n 3, 1) := by decide +kernel
theorem dX9_ballotRefusal_15 : decode cX9_ballotRefusal 15 = .ok (.invokestatic 335, 3) := by decide +kernel
theorem dX9_ballotRefusal_18 : decode cX9_ballotRefusal 18 = .ok (.ifCond .ne 5, 3) := by decide +kernel
theorem dX9_ballotRefusal_21 : decode cX9_ballotRefusal 21 = .ok (.iconst 2, 1) := by decide +kernel
theorem dX9_ballotRefusal_22 : decode cX9_ballotRefusal 22 = .ok (.ireturn, 1) := by decide +kernel
theorem dX9_ballotRefusal_23 : decode cX9_ballotRefusal 23 = .ok (.iload_n 2, 1) := by decide +kernel
theorem dX9_ballotRefusal_24 : decode cX9_ballotRefusal 24 = .ok (.iconst (-1), 1) := by decide +kernel
theorem dX9_ballotRefusal_25 : decode cX9_ballotRefusal 25 = .ok (.if_icmp .ne 10, 3) := by decide +kernel
theorem dX9_ballotRefusal_28 : decode cX9_ballotRefusal 28 = .ok (.iload_n 3, 1) := by decide +kernel
theorem dX9_ballotRefusal_29 : decode cX9_ballotRefusal 29 = .ok (.iconst (-1), 1) := by decide +kernel
theorem dX9_ballotRefusal_30 : decode cX9_ballotRefusal 30 = .ok (.if_icmp .eq 5, 3) := by decide +kernel
theorem dX9_ballotRefusal_33 : decode cX9_ballotRefusal 33 = .ok (.iconst 2, 1) := by decide +kernel
theorem dX9_ballotRefusal_34 : decode cX9_ballotRefusal 34 = .ok (.ireturn, 1) := by decide +kernel
theorem dX9_ballotRefusal_35 : decode cX9_ballotRefusal 35 = .ok (.iload_n 1, 1) := by decide +kernel
theorem dX9_ballotRefusal_36 : decode cX9_ballotRefusal 36 = .ok (.iload_n 2, 1) := by decide +kernel
theorem dX9_ballotRefusal_37 : decode cX9_ballotRefusal 37 = .ok (.if_icmp .eq 18, 3) := by decide +kernel
theorem dX9_ballotRefusal_40 : decode cX9_ballotRefusal 40 = .ok (.iload_n 1, 1) := by decide +kernel
theorem dX9_ballotRefusal_41 : decode cX9_ballotRefusal 41 = .ok (.iload_n 3, 1) := by decide +kernel
theorem dX9_ballotRefusal_42 : decode cX9_ballotRefusal 42 = .ok (.if_icmp .eq 13, 3) := by decide +kernel
theorem dX9_ballotRefusal_45 : decode cX9_ballotRefusal 45 = .ok (.iload_n 2, 1) := by decide +kernel
theorem dX9_ballotRefusal_46 : decode cX9_ballotRefusal 46 = .ok (.iload_n 3, 1) := by decide +kernel
theorem dX9_ballotRefusal_47 : decode cX9_ballotRefusal 47 = .ok (.if_icmp .ne 10, 3) := by decide +kernel
theorem dX9_ballotRefusal_50 : decode cX9_ballotRefusal 50 = .ok (.iload_n 2, 1) := by decide +kernel
theorem dX9_ballotRefusal_51 : decode cX9_ballotRefusal 51 = .ok (.iconst (-1), 1) := by decide +kernel
theorem dX9_ballotRefusal_52 : decode cX9_ballotRefusal 52 = .ok (.if_icmp .eq 5, 3) := by decide +kernel
theorem dX9_ballotRefusal_55 : decode cX9_ballotRefusal 55 = .ok (.iconst 2, 1) := by decide +kernel
theorem dX9_ballotRefusal_56 : decode cX9_ballotRefusal 56 = .ok (.ireturn, 1) := by decide +kernel
theorem dX9_ballotRefusal_57 : decode cX9_ballotRefusal 57 = .ok (.aload_n 0, 1) := by decide +kernel
theorem dX9_ballotRefusal_58 : decode cX9_ballotRefusal 58 = .ok (.getfield 10, 3) := by decide +kernel
theorem dX9_ballotRefusal_61 : decode cX9_ballotRefusal 61 = .ok (.getfield 131, 3) := by decide +kernel
theorem dX9_ballotRefusal_64 : decode cX9_ballotRefusal 64 = .ok (.getfield 140, 3) := by decide +kernel
theorem dX9_ballotRefusal_67 : decode cX9_ballotRefusal 67 = .ok (.bipush 20, 2) := by decide +kernel
theorem dX9_ballotRefusal_69 : decode cX9_ballotRefusal 69 = .ok (.if_icmp .lt 7, 3) := by decide +kernel
theorem dX9_ballotRefusal_72 : decode cX9_ballotRefusal 72 = .ok (.iconst 3, 1) := by decide +kernel
theorem dX9_ballotRefusal_73 : decode cX9_ballotRefusal 73 = .ok (.goto 4, 3) := by decide +kernel
theorem dX9_ballotRefusal_76 : decode cX9_ballotRefusal 76 = .ok (.iconst 0, 1) := by decide +kernel
theorem dX9_ballotRefusal_77 : decode cX9_ballotRefusal 77 = .ok (.ireturn, 1) := by decide +kernel
theorem dX9_meltTrial_0 : decode cX9_meltTrial 0 = .ok (.iconst 0, 1) := by decide +kernel
theorem dX9_meltTrial_1 : decode cX9_meltTrial 1 = .ok (.istore_n 2, 1) := by decide +kernel
theorem dX9_meltTrial_2 : decode cX9_meltTrial 2 = .ok (.iconst 0, 1) := by decide +kernel
theorem dX9_meltTrial_3 : decode cX9_meltTrial 3 = .ok (.istore_n 3, 1) := by decide +kernel
theorem dX9_meltTrial_4 : decode cX9_meltTrial 4 = .ok (.iload_n 3, 1) := by decide +kernel
theorem dX9_meltTrial_5 : decode cX9_meltTrial 5 = .ok (.iload_n 1, 1) := by decide +kernel
theorem dX9_meltTrial_6 : decode cX9_meltTrial 6 = .ok (.if_icmp .ge 31, 3) := by decide +kernel
theorem dX9_meltTrial_9 : decode cX9_meltTrial 9 = .ok (.iload_n 2, 1) := by decide +kernel
theorem dX9_meltTrial_10 : decode cX9_meltTrial 10 = .ok (.aload_n 0, 1) := by decide +kernel
theorem dX9_meltTrial_11 : decode cX9_meltTrial 11 = .ok (.getfield 40, 3) := by decide +kernel
theorem dX9_meltTrial_14 : decode cX9_meltTrial 14 = .ok (.aload_n 0, 1) := by decide +kernel
theorem dX9_meltTrial_15 : decode cX9_meltTrial 15 = .ok (.getfield 10, 3) := by decide +kernel
theorem dX9_meltTrial_18 : decode cX9_meltTrial 18 = .ok (.getfield 165, 3) := by decide +kernel
theorem dX9_meltTrial_21 : decode cX9_meltTrial 21 = .ok (.iload_n 3, 1) := by decide +kernel
theorem dX9_meltTrial_22 : decode cX9_meltTrial 22 = .ok (.iadd, 1) := by decide +kernel
theorem dX9_meltTrial_23 : decode cX9_meltTrial 23 = .ok (.bipush 12, 2) := by decide +kernel
theorem dX9_meltTrial_25 : decode cX9_meltTrial 25 = .ok (.irem, 1) := by decide +kernel
theorem dX9_meltTrial_26 : decode cX9_meltTrial 26 = .ok (.invokevirtual 251, 3) := by decide +kernel
theorem dX9_meltTrial_29 : decode cX9_meltTrial 29 = .ok (.iadd, 1) := by decide +kernel
theorem dX9_meltTrial_30 : decode cX9_meltTrial 30 = .ok (.istore_n 2, 1) := by decide +kernel
theorem dX9_meltTrial_31 : decode cX9_meltTrial 31 = .ok (.iinc 3 1, 3) := by decide +kernel
theorem dX9_meltTrial_34 : decode cX9_meltTrial 34 = .ok (.goto (-30), 3) := by decide +kernel
theorem dX9_meltTrial_37 : decode cX9_meltTrial 37 = .ok (.iload_n 2, 1) := by decide +kernel
theorem dX9_meltTrial_38 : decode cX9_meltTrial 38 = .ok (.ireturn, 1) := by decide +kernel
theorem dX9_isTool_0 : decode cX9_isTool 0 = .ok (.iload_n 1, 1) := by decide +kernel
theorem dX9_isTool_1 : decode cX9_isTool 1 = .ok (.ifCond .lt 21, 3) := by decide +kernel
theorem dX9_isTool_4 : decode cX9_isTool 4 = .ok (.iload_n 1, 1) := by decide +kernel
theorem dX9_isTool_5 : decode cX9_isTool 5 = .ok (.aload_n 0, 1) := by decide +kernel
theorem dX9_isTool_6 : decode cX9_isTool 6 = .ok (.getfield 10, 3) := by decide +kernel
theorem dX9_isTool_9 : decode cX9_isTool 9 = .ok (.getfield 100, 3) := by decide +kernel
theorem dX9_isTool_12 : decode cX9_isTool 12 = .ok (.getfield 109, 3) := by decide +kernel
theorem dX9_isTool_15 : decode cX9_isTool 15 = .ok (.if_icmp .ge 7, 3) := by decide +kernel
theorem dX9_isTool_18 : decode cX9_isTool 18 = .ok (.iconst 1, 1) := by decide +kernel
theorem dX9_isTool_19 : decode cX9_isTool 19 = .ok (.goto 4, 3) := by decide +kernel
theorem dX9_isTool_22 : decode cX9_isTool 22 = .ok (.iconst 0, 1) := by decide +kernel
theorem dX9_isTool_23 : decode cX9_isTool 23 = .ok (.ireturn, 1) := by decide +kernel
theorem dX9_isSite_0 : decode cX9_isSite 0 = .ok (.iload_n 0, 1) := by decide +kernel
theorem dX9_isSite_1 : decode cX9_isSite 1 = .ok (.iconst 0, 1) := by decide +kernel
theorem dX9_isSite_2 : decode cX9_isSite 2 = .ok (.bipush 7, 2) := by decide +kernel
theorem dX9_isSite_4 : decode cX9_isSite 4 = .ok (.invokestatic 141, 3) := by decide +kernel
theorem dX9_isSite_7 : decode cX9_isSite 7 = .ok (.ireturn, 1) := by decide +kernel
theorem dX9_isSiteOrNone_0 : decode cX9_isSiteOrNone 0 = .ok (.iload_n 0, 1) := by decide +kernel
theorem dX9_isSiteOrNone_1 : decode cX9_isSiteOrNone 1 = .ok (.iconst (-1), 1) := by decide +kernel
theorem dX9_isSiteOrNone_2 : decode cX9_isSiteOrNone 2 = .ok (.if_icmp .eq 10, 3) := by decide +kernel
theorem dX9_isSiteOrNone_5 : decode cX9_isSiteOrNone 5 = .ok (.iload_n 0, 1) := by decide +kernel
theorem dX9_isSiteOrNone_6 : decode cX9_isSiteOrNone 6 = .ok (.invokestatic 332, 3) := by decide +kernel
theorem dX9_isSiteOrNone_9 : decode cX9_isSiteOrNone 9 = .ok (.ifCond .eq 7, 3) := by decide +kernel
theorem dX9_isSiteOrNone_12 : decode cX9_isSiteOrNone 12 = .ok (.iconst 1, 1) := by decide +kernel
theorem dX9_isSiteOrNone_13 : decode cX9_isSiteOrNone 13 = .ok (.goto 4, 3) := by decide +kernel
theorem dX9_isSiteOrNone_16 : decode cX9_isSiteOrNone 16 = .ok (.iconst 0, 1) := by decide +kernel
theorem dX9_isSiteOrNone_17 : decode cX9_isSiteOrNone 17 = .ok (.ireturn, 1) := by decide +kernel
theorem dX9_isWithin_0 : decode cX9_isWithin 0 = .ok (.iload_n 0, 1) := by decide +kernel
theorem dX9_isWithin_1 : decode cX9_isWithin 1 = .ok (.iload_n 1, 1) := by decide +kernel
theorem dX9_isWithin_2 : decode cX9_isWithin 2 = .ok (.if_icmp .lt 12, 3) := by decide +kernel
theorem dX9_isWithin_5 : decode cX9_isWithin 5 = .ok (.iload_n 0, 1) := by decide +kernel
theorem dX9_isWithin_6 : decode cX9_isWithin 6 = .ok (.iload_n 2, 1) := by decide +kernel
theorem dX9_isWithin_7 : decode cX9_isWithin 7 = .ok (.if_icmp .gt 7, 3) := by decide +kernel
theorem dX9_isWithin_10 : decode cX9_isWithin 10 = .ok (.iconst 1, 1) := by decide +kernel
theorem dX9_isWithin_11 : decode cX9_isWithin 11 = .ok (.goto 4, 3) := by decide +kernel
theorem dX9_isWithin_14 : decode cX9_isWithin 14 = .ok (.iconst 0, 1) := by decide +kernel
theorem dX9_isWithin_15 : decode cX9_isWithin 15 = .ok (.ireturn, 1) := by decide +kernel
theorem dX9_placeOf_0 : decode cX9_placeOf 0 = .ok (.iload_n 0, 1) := by decide +kernel
theorem dX9_placeOf_1 : decode cX9_placeOf 1 = .ok (.bipush 6, 2) := by decide +kernel
theorem dX9_placeOf_3 : decode cX9_placeOf 3 = .ok (.imul, 1) := by decide +kernel
theorem dX9_placeOf_4 : decode cX9_placeOf 4 = .ok (.iload_n 1, 1) := by decide +kernel
theorem dX9_placeOf_5 : decode cX9_placeOf 5 = .ok (.iadd, 1) := by decide +kernel
theorem dX9_placeOf_6 : decode cX9_placeOf 6 = .ok (.ireturn, 1) := by decide +kernel
theorem dX9_sum_0 : decode cX9_sum 0 = .ok (.iconst 0, 1) := by decide +kernel
theorem dX9_sum_1 : decode cX9_sum 1 = .ok (.istore_n 1, 1) := by decide +kernel
theorem dX9_sum_2 : decode cX9_sum 2 = .ok (.aload_n 0, 1) := by decide +kernel
theorem dX9_sum_3 : decode cX9_sum 3 = .ok (.astore_n 2, 1) := by decide +kernel
theorem dX9_sum_4 : decode cX9_sum 4 = .ok (.aload_n 2, 1) := by decide +kernel
theorem dX9_sum_5 : decode cX9_sum 5 = .ok (.arraylength, 1) := by decide +kernel
theorem dX9_sum_6 : decode cX9_sum 6 = .ok (.istore_n 3, 1) := by decide +kernel
theorem dX9_sum_7 : decode cX9_sum 7 = .ok (.iconst 0, 1) := by decide +kernel
theorem dX9_sum_8 : decode cX9_sum 8 = .ok (.istore 4, 2) := by decide +kernel
theorem dX9_sum_10 : decode cX9_sum 10 = .ok (.iload 4, 2) := by decide +kernel
theorem dX9_sum_12 : decode cX9_sum 12 = .ok (.iload_n 3, 1) := by decide +kernel
theorem dX9_sum_13 : decode cX9_sum 13 = .ok (.if_icmp .ge 20, 3) := by decide +kernel
theorem dX9_sum_16 : decode cX9_sum 16 = .ok (.aload_n 2, 1) := by decide +kernel
theorem dX9_sum_17 : decode cX9_sum 17 = .ok (.iload 4, 2) := by decide +kernel
theorem dX9_sum_19 : decode cX9_sum 19 = .ok (.iaload, 1) := by decide +kernel
theorem dX9_sum_20 : decode cX9_sum 20 = .ok (.istore 5, 2) := by decide +kernel
theorem dX9_sum_22 : decode cX9_sum 22 = .ok (.iload_n 1, 1) := by decide +kernel
theorem dX9_sum_23 : decode cX9_sum 23 = .ok (.iload 5, 2) := by decide +kernel
theorem dX9_sum_25 : decode cX9_sum 25 = .ok (.iadd, 1) := by decide +kernel
theorem dX9_sum_26 : decode cX9_sum 26 = .ok (.istore_n 1, 1) := by decide +kernel
theorem dX9_sum_27 : decode cX9_sum 27 = .ok (.iinc 4 1, 3) := by decide +kernel
theorem dX9_sum_30 : decode cX9_sum 30 = .ok (.goto (-20), 3) := by decide +kernel
theorem dX9_sum_33 : decode cX9_sum 33 = .ok (.iload_n 1, 1) := by decide +kernel
theorem dX9_sum_34 : decode cX9_sum 34 = .ok (.ireturn, 1) := by decide +kernel
theorem dX9_copyRow_0 : decode cX9_copyRow 0 = .ok (.aload_n 0, 1) := by decide +kernel
theorem dX9_copyRow_1 : decode cX9_copyRow 1 = .ok (.iconst 0, 1) := by decide +kernel
theorem dX9_copyRow_2 : decode cX9_copyRow 2 = .ok (.aload_n 1, 1) := by decide +kernel
theorem dX9_copyRow_3 : decode cX9_copyRow 3 = .ok (.iconst 0, 1) := by decide +kernel
theorem dX9_copyRow_4 : decode cX9_copyRow 4 = .ok (.aload_n 0, 1) := by decide +kernel
theorem dX9_copyRow_5 : decode cX9_copyRow 5 = .ok (.arraylength, 1) := by decide +kernel
theorem dX9_copyRow_6 : decode cX9_copyRow 6 = .ok (.aload_n 1, 1) := by decide +kernel
theorem dX9_copyRow_7 : decode cX9_copyRow 7 = .ok (.arraylength, 1) := by decide +kernel
theorem dX9_copyRow_8 : decode cX9_copyRow 8 = .ok (.invokestatic 355, 3) := by decide +kernel
theorem dX9_copyRow_11 : decode cX9_copyRow 11 = .ok (.invokestatic 360, 3) := by decide +kernel
theorem dX9_copyRow_14 : decode cX9_copyRow 14 = .ok (.return_, 1) := by decide +kernel
