theorem dX5_set_37 : decode cX5_set 37 = .ok (.getfield 22, 3) := by decide +kernel
theorem dX5_set_40 : decode cX5_set 40 = .ok (.aload_n 0, 1) := by decide +kernel
theorem dX5_set_41 : decode cX5_set 41 = .ok (.getfield 10, 3) := by decide +kernel
theorem dX5_set_44 : decode cX5_set 44 = .ok (.invokevirtual 54, 3) := by decide +kernel
theorem dX5_set_47 : decode cX5_set 47 = .ok (.aload_n 0, 1) := by decide +kernel
theorem dX5_set_48 : decode cX5_set 48 = .ok (.getfield 10, 3) := by decide +kernel
theorem dX5_set_51 : decode cX5_set 51 = .ok (.getfield 83, 3) := by decide +kernel
theorem dX5_set_54 : decode cX5_set 54 = .ok (.iload_n 1, 1) := by decide +kernel
theorem dX5_set_55 : decode cX5_set 55 = .ok (.invokestatic 79, 3) := by decide +kernel
theorem dX5_set_58 : decode cX5_set 58 = .ok (.istore_n 3, 1) := by decide +kernel
theorem dX5_set_59 : decode cX5_set 59 = .ok (.aload_n 0, 1) := by decide +kernel
theorem dX5_set_60 : decode cX5_set 60 = .ok (.getfield 10, 3) := by decide +kernel
theorem dX5_set_63 : decode cX5_set 63 = .ok (.getfield 83, 3) := by decide +kernel
theorem dX5_set_66 : decode cX5_set 66 = .ok (.iload_n 1, 1) := by decide +kernel
theorem dX5_set_67 : decode cX5_set 67 = .ok (.iload_n 2, 1) := by decide +kernel
theorem dX5_set_68 : decode cX5_set 68 = .ok (.invokestatic 109, 3) := by decide +kernel
theorem dX5_set_71 : decode cX5_set 71 = .ok (.iload_n 3, 1) := by decide +kernel
theorem dX5_set_72 : decode cX5_set 72 = .ok (.ireturn, 1) := by decide +kernel
theorem dX5_pass_0 : decode cX5_pass 0 = .ok (.iload_n 1, 1) := by decide +kernel
theorem dX5_pass_1 : decode cX5_pass 1 = .ok (.invokestatic 137, 3) := by decide +kernel
theorem dX5_pass_4 : decode cX5_pass 4 = .ok (.aload_n 0, 1) := by decide +kernel
theorem dX5_pass_5 : decode cX5_pass 5 = .ok (.getfield 22, 3) := by decide +kernel
theorem dX5_pass_8 : decode cX5_pass 8 = .ok (.aload_n 0, 1) := by decide +kernel
theorem dX5_pass_9 : decode cX5_pass 9 = .ok (.getfield 10, 3) := by decide +kernel
theorem dX5_pass_12 : decode cX5_pass 12 = .ok (.invokevirtual 54, 3) := by decide +kernel
theorem dX5_pass_15 : decode cX5_pass 15 = .ok (.aload_n 0, 1) := by decide +kernel
theorem dX5_pass_16 : decode cX5_pass 16 = .ok (.getfield 10, 3) := by decide +kernel
theorem dX5_pass_19 : decode cX5_pass 19 = .ok (.iload_n 1, 1) := by decide +kernel
theorem dX5_pass_20 : decode cX5_pass 20 = .ok (.invokevirtual 140, 3) := by decide +kernel
theorem dX5_pass_23 : decode cX5_pass 23 = .ok (.ireturn, 1) := by decide +kernel
theorem dX5_undo_0 : decode cX5_undo 0 = .ok (.aload_n 0, 1) := by decide +kernel
theorem dX5_undo_1 : decode cX5_undo 1 = .ok (.getfield 22, 3) := by decide +kernel
theorem dX5_undo_4 : decode cX5_undo 4 = .ok (.getfield 179, 3) := by decide +kernel
theorem dX5_undo_7 : decode cX5_undo 7 = .ok (.ifCond .gt 13, 3) := by decide +kernel
theorem dX5_undo_10 : decode cX5_undo 10 = .ok (.new 47, 3) := by decide +kernel
theorem dX5_undo_13 : decode cX5_undo 13 = .ok (.dup, 1) := by decide +kernel
theorem dX5_undo_14 : decode cX5_undo 14 = .ok (.ldc 182, 2) := by decide +kernel
theorem dX5_undo_16 : decode cX5_undo 16 = .ok (.invokespecial 51, 3) := by decide +kernel
theorem dX5_undo_19 : decode cX5_undo 19 = .ok (.athrow, 1) := by decide +kernel
theorem dX5_undo_20 : decode cX5_undo 20 = .ok (.aload_n 0, 1) := by decide +kernel
theorem dX5_undo_21 : decode cX5_undo 21 = .ok (.getfield 22, 3) := by decide +kernel
theorem dX5_undo_24 : decode cX5_undo 24 = .ok (.aload_n 0, 1) := by decide +kernel
theorem dX5_undo_25 : decode cX5_undo 25 = .ok (.getfield 10, 3) := by decide +kernel
theorem dX5_undo_28 : decode cX5_undo 28 = .ok (.invokevirtual 184, 3) := by decide +kernel
theorem dX5_undo_31 : decode cX5_undo 31 = .ok (.aload_n 0, 1) := by decide +kernel
theorem dX5_undo_32 : decode cX5_undo 32 = .ok (.getfield 22, 3) := by decide +kernel
theorem dX5_undo_35 : decode cX5_undo 35 = .ok (.getfield 179, 3) := by decide +kernel
theorem dX5_undo_38 : decode cX5_undo 38 = .ok (.ireturn, 1) := by decide +kernel
theorem dX5_floor_0 : decode cX5_floor 0 = .ok (.iload_n 1, 1) := by decide +kernel
theorem dX5_floor_1 : decode cX5_floor 1 = .ok (.invokestatic 71, 3) := by decide +kernel
theorem dX5_floor_4 : decode cX5_floor 4 = .ok (.iload_n 2, 1) := by decide +kernel
theorem dX5_floor_5 : decode cX5_floor 5 = .ok (.bipush 8, 2) := by decide +kernel
theorem dX5_floor_7 : decode cX5_floor 7 = .ok (.invokestatic 187, 3) := by decide +kernel
theorem dX5_floor_10 : decode cX5_floor 10 = .ok (.aload_n 0, 1) := by decide +kernel
theorem dX5_floor_11 : decode cX5_floor 11 = .ok (.getfield 10, 3) := by decide +kernel
theorem dX5_floor_14 : decode cX5_floor 14 = .ok (.iload_n 1, 1) := by decide +kernel
theorem dX5_floor_15 : decode cX5_floor 15 = .ok (.iload_n 2, 1) := by decide +kernel
theorem dX5_floor_16 : decode cX5_floor 16 = .ok (.invokevirtual 190, 3) := by decide +kernel
theorem dX5_floor_19 : decode cX5_floor 19 = .ok (.ireturn, 1) := by decide +kernel
theorem dX5_person_0 : decode cX5_person 0 = .ok (.iload_n 1, 1) := by decide +kernel
theorem dX5_person_1 : decode cX5_person 1 = .ok (.ifCond .ge 13, 3) := by decide +kernel
theorem dX5_person_4 : decode cX5_person 4 = .ok (.new 132, 3) := by decide +kernel
theorem dX5_person_7 : decode cX5_person 7 = .ok (.dup, 1) := by decide +kernel
theorem dX5_person_8 : decode cX5_person 8 = .ok (.ldc 193, 2) := by decide +kernel
theorem dX5_person_10 : decode cX5_person 10 = .ok (.invokespecial 136, 3) := by decide +kernel
theorem dX5_person_13 : decode cX5_person 13 = .ok (.athrow, 1) := by decide +kernel
theorem dX5_person_14 : decode cX5_person 14 = .ok (.iload_n 2, 1) := by decide +kernel
theorem dX5_person_15 : decode cX5_person 15 = .ok (.iconst 4, 1) := by decide +kernel
theorem dX5_person_16 : decode cX5_person 16 = .ok (.invokestatic 187, 3) := by decide +kernel
theorem dX5_person_19 : decode cX5_person 19 = .ok (.aload_n 0, 1) := by decide +kernel
theorem dX5_person_20 : decode cX5_person 20 = .ok (.getfield 10, 3) := by decide +kernel
theorem dX5_person_23 : decode cX5_person 23 = .ok (.getfield 37, 3) := by decide +kernel
theorem dX5_person_26 : decode cX5_person 26 = .ok (.iload_n 1, 1) := by decide +kernel
theorem dX5_person_27 : decode cX5_person 27 = .ok (.iload_n 2, 1) := by decide +kernel
theorem dX5_person_28 : decode cX5_person 28 = .ok (.invokevirtual 195, 3) := by decide +kernel
theorem dX5_person_31 : decode cX5_person 31 = .ok (.ireturn, 1) := by decide +kernel
theorem dX5_count_0 : decode cX5_count 0 = .ok (.iload_n 1, 1) := by decide +kernel
theorem dX5_count_1 : decode cX5_count 1 = .ok (.bipush 11, 2) := by decide +kernel
theorem dX5_count_3 : decode cX5_count 3 = .ok (.invokestatic 187, 3) := by decide +kernel
theorem dX5_count_6 : decode cX5_count 6 = .ok (.aload_n 0, 1) := by decide +kernel
theorem dX5_count_7 : decode cX5_count 7 = .ok (.iload_n 1, 1) := by decide +kernel
theorem dX5_count_8 : decode cX5_count 8 = .ok (.invokevirtual 198, 3) := by decide +kernel
theorem dX5_count_11 : decode cX5_count 11 = .ok (.ireturn, 1) := by decide +kernel
theorem dX5_setting_0 : decode cX5_setting 0 = .ok (.iload_n 1, 1) := by decide +kernel
theorem dX5_setting_1 : decode cX5_setting 1 = .ok (.invokestatic 123, 3) := by decide +kernel
theorem dX5_setting_4 : decode cX5_setting 4 = .ok (.aload_n 0, 1) := by decide +kernel
theorem dX5_setting_5 : decode cX5_setting 5 = .ok (.getfield 10, 3) := by decide +kernel
theorem dX5_setting_8 : decode cX5_setting 8 = .ok (.getfield 83, 3) := by decide +kernel
theorem dX5_setting_11 : decode cX5_setting 11 = .ok (.iload_n 1, 1) := by decide +kernel
theorem dX5_setting_12 : decode cX5_setting 12 = .ok (.invokestatic 79, 3) := by decide +kernel
theorem dX5_setting_15 : decode cX5_setting 15 = .ok (.ireturn, 1) := by decide +kernel
theorem dX5_ifPassed_0 : decode cX5_ifPassed 0 = .ok (.iload_n 1, 1) := by decide +kernel
theorem dX5_ifPassed_1 : decode cX5_ifPassed 1 = .ok (.invokestatic 137, 3) := by decide +kernel
theorem dX5_ifPassed_4 : decode cX5_ifPassed 4 = .ok (.iload_n 2, 1) := by decide +kernel
theorem dX5_ifPassed_5 : decode cX5_ifPassed 5 = .ok (.iconst 4, 1) := by decide +kernel
theorem dX5_ifPassed_6 : decode cX5_ifPassed 6 = .ok (.invokestatic 187, 3) := by decide +kernel
theorem dX5_ifPassed_9 : decode cX5_ifPassed 9 = .ok (.aload_n 0, 1) := by decide +kernel
theorem dX5_ifPassed_10 : decode cX5_ifPassed 10 = .ok (.iload_n 1, 1) := by decide +kernel
theorem dX5_ifPassed_11 : decode cX5_ifPassed 11 = .ok (.iload_n 2, 1) := by decide +kernel
theorem dX5_ifPassed_12 : decode cX5_ifPassed 12 = .ok (.invokevirtual 201, 3) := by decide +kernel
theorem dX5_ifPassed_15 : decode cX5_ifPassed 15 = .ok (.ireturn, 1) := by decide +kernel
theorem dX5_dark_0 : decode cX5_dark 0 = .ok (.iload_n 1, 1) := by decide +kernel
theorem dX5_dark_1 : decode cX5_dark 1 = .ok (.iload_n 2, 1) := by decide +kernel
theorem dX5_dark_2 : decode cX5_dark 2 = .ok (.invokestatic 33, 3) := by decide +kernel
theorem dX5_dark_5 : decode cX5_dark 5 = .ok (.aload_n 0, 1) := by decide +kernel
theorem dX5_dark_6 : decode cX5_dark 6 = .ok (.aload_n 0, 1) := by decide +kernel
theorem dX5_dark_7 : decode cX5_dark 7 = .ok (.getfield 10, 3) := by decide +kernel
theorem dX5_dark_10 : decode cX5_dark 10 = .ok (.getfield 83, 3) := by decide +kernel
theorem dX5_dark_13 : decode cX5_dark 13 = .ok (.iconst 0, 1) := by decide +kernel
theorem dX5_dark_14 : decode cX5_dark 14 = .ok (.invokestatic 79, 3) := by decide +kernel
theorem dX5_dark_17 : decode cX5_dark 17 = .ok (.iload_n 1, 1) := by decide +kernel
theorem dX5_dark_18 : decode cX5_dark 18 = .ok (.iload_n 2, 1) := by decide +kernel
theorem dX5_dark_19 : decode cX5_dark 19 = .ok (.invokevirtual 204, 3) := by decide +kernel
theorem dX5_dark_22 : decode cX5_dark 22 = .ok (.ireturn, 1) := by decide +kernel
theorem dX5_worst_0 : decode cX5_worst 0 = .ok (.aload_n 0, 1) := by decide +kernel
theorem dX5_worst_1 : decode cX5_worst 1 = .ok (.getfield 10, 3) := by decide +kernel
theorem dX5_worst_4 : decode cX5_worst 4 = .ok (.getfield 90, 3) := by decide +kernel
theorem dX5_worst_7 : decode cX5_worst 7 = .ok (.invokevirtual 211, 3) := by decide +kernel
theorem dX5_worst_10 : decode cX5_worst 10 = .ok (.ireturn, 1) := by decide +kernel
theorem dX5_lightness_0 : decode cX5_lightness 0 = .ok (.aload_n 0, 1) := by decide +kernel
theorem dX5_lightness_1 : decode cX5_lightness 1 = .ok (.getfield 10, 3) := by decide +kernel
theorem dX5_lightness_4 : decode cX5_lightness 4 = .ok (.invokevirtual 214, 3) := by decide +kernel
theorem dX5_lightness_7 : decode cX5_lightness 7 = .ok (.dreturn, 1) := by decide +kernel
theorem dX5_checkFloor_0 : decode cX5_checkFloor 0 = .ok (.iload_n 0, 1) := by decide +kernel
theorem dX5_checkFloor_1 : decode cX5_checkFloor 1 = .ok (.ifCond .lt 9, 3) := by decide +kernel
theorem dX5_checkFloor_4 : decode cX5_checkFloor 4 = .ok (.iload_n 0, 1) := by decide +kernel
theorem dX5_checkFloor_5 : decode cX5_checkFloor 5 = .ok (.bipush 8, 2) := by decide +kernel
theorem dX5_checkFloor_7 : decode cX5_checkFloor 7 = .ok (.if_icmp .lt 13, 3) := by decide +kernel
theorem dX5_checkFloor_10 : decode cX5_checkFloor 10 = .ok (.new 66, 3) := by decide +kernel
theorem dX5_checkFloor_13 : decode cX5_checkFloor 13 = .ok (.dup, 1) := by decide +kernel
theorem dX5_checkFloor_14 : decode cX5_checkFloor 14 = .ok (.ldc 238, 2) := by decide +kernel
theorem dX5_checkFloor_16 : decode cX5_checkFloor 16 = .ok (.invokespecial 70, 3) := by decide +kernel
theorem dX5_checkFloor_19 : decode cX5_checkFloor 19 = .ok (.athrow, 1) := by decide +kernel
theorem dX5_checkFloor_20 : decode cX5_checkFloor 20 = .ok (.return_, 1) := by decide +kernel
theorem dX5_checkWay_0 : decode cX5_checkWay 0 = .ok (.iload_n 0, 1) := by decide +kernel
theorem dX5_checkWay_1 : decode cX5_checkWay 1 = .ok (.invokestatic 71, 3) := by decide +kernel
theorem dX5_checkWay_4 : decode cX5_checkWay 4 = .ok (.iload_n 1, 1) := by decide +kernel
theorem dX5_checkWay_5 : decode cX5_checkWay 5 = .ok (.invokestatic 71, 3) := by decide +kernel
theorem dX5_checkWay_8 : decode cX5_checkWay 8 = .ok (.iload_n 0, 1) := by decide +kernel
theorem dX5_checkWay_9 : decode cX5_checkWay 9 = .ok (.iload_n 1, 1) := by decide +kernel
theorem dX5_checkWay_10 : decode cX5_checkWay 10 = .ok (.if_icmp .ne 13, 3) := by decide +kernel
theorem dX5_checkWay_13 : decode cX5_checkWay 13 = .ok (.new 132, 3) := by decide +kernel
theorem dX5_checkWay_16 : decode cX5_checkWay 16 = .ok (.dup, 1) := by decide +kernel
theorem dX5_checkWay_17 : decode cX5_checkWay 17 = .ok (.ldc 240, 2) := by decide +kernel
theorem dX5_checkWay_19 : decode cX5_checkWay 19 = .ok (.invokespecial 136, 3) := by decide +kernel
theorem dX5_checkWay_22 : decode cX5_checkWay 22 = .ok (.athrow, 1) := by decide +kernel
theorem dX5_checkWay_23 : decode cX5_checkWay 23 = .ok (.return_, 1) := by decide +kernel
theorem dX5_checkSetting_0 : decode cX5_checkSetting 0 = .ok (.iload_n 0, 1) := by decide +kernel
theorem dX5_checkSetting_1 : decode cX5_checkSetting 1 = .ok (.ifCond .lt 11, 3) := by decide +kernel
theorem dX5_checkSetting_4 : decode cX5_checkSetting 4 = .ok (.iload_n 0, 1) := by decide +kernel
theorem dX5_checkSetting_5 : decode cX5_checkSetting 5 = .ok (.getstatic 242, 3) := by decide +kernel
theorem dX5_checkSetting_8 : decode cX5_checkSetting 8 = .ok (.arraylength, 1) := by decide +kernel
theorem dX5_checkSetting_9 : decode cX5_checkSetting 9 = .ok (.if_icmp .lt 13, 3) := by decide +kernel
theorem dX5_checkSetting_12 : decode cX5_checkSetting 12 = .ok (.new 66, 3) := by decide +kernel
theorem dX5_checkSetting_15 : decode cX5_checkSetting 15 = .ok (.dup, 1) := by decide +kernel
theorem dX5_checkSetting_16 : decode cX5_checkSetting 16 = .ok (.ldc 245, 2) := by decide +kernel
theorem dX5_checkSetting_18 : decode cX5_checkSetting 18 = .ok (.invokespecial 70, 3) := by decide +kernel
theorem dX5_checkSetting_21 : decode cX5_checkSetting 21 = .ok (.athrow, 1) := by decide +kernel
theorem dX5_checkSetting_22 : decode cX5_checkSetting 22 = .ok (.return_, 1) := by decide +kernel
theorem dX5_checkSeconds_0 : decode cX5_checkSeconds 0 = .ok (.iload_n 0, 1) := by decide +kernel
theorem dX5_checkSeconds_1 : decode cX5_checkSeconds 1 = .ok (.iconst 1, 1) := by decide +kernel
theorem dX5_checkSeconds_2 : decode cX5_checkSeconds 2 = .ok (.if_icmp .lt 10, 3) := by decide +kernel
theorem dX5_checkSeconds_5 : decode cX5_checkSeconds 5 = .ok (.iload_n 0, 1) := by decide +kernel
theorem dX5_checkSeconds_6 : decode cX5_checkSeconds 6 = .ok (.sipush 300, 3) := by decide +kernel
theorem dX5_checkSeconds_9 : decode cX5_checkSeconds 9 = .ok (.if_icmp .le 13, 3) := by decide +kernel
theorem dX5_checkSeconds_12 : decode cX5_checkSeconds 12 = .ok (.new 132, 3) := by decide +kernel
theorem dX5_checkSeconds_15 : decode cX5_checkSeconds 15 = .ok (.dup, 1) := by decide +kernel
theorem dX5_checkSeconds_16 : decode cX5_checkSeconds 16 = .ok (.ldc 247, 2) := by decide +kernel
theorem dX5_checkSeconds_18 : decode cX5_checkSeconds 18 = .ok (.invokespecial 136, 3) := by decide +kernel
theorem dX5_checkSeconds_21 : decode cX5_checkSeconds 21 = .ok (.athrow, 1) := by decide +kernel
theorem dX5_checkSeconds_22 : decode cX5_checkSeconds 22 = .ok (.return_, 1) := by decide +kernel
theorem dX5_checkWhat_0 : decode cX5_checkWhat 0 = .ok (.iload_n 0, 1) := by decide +kernel
theorem dX5_checkWhat_1 : decode cX5_checkWhat 1 = .ok (.ifCond .lt 8, 3) := by decide +kernel
theorem dX5_checkWhat_4 : decode cX5_checkWhat 4 = .ok (.iload_n 0, 1) := by decide +kernel
theorem dX5_checkWhat_5 : decode cX5_checkWhat 5 = .ok (.iload_n 1, 1) := by decide +kernel
theorem dX5_checkWhat_6 : decode cX5_checkWhat 6 = .ok (.if_icmp .lt 13, 3) := by decide +kernel
theorem dX5_checkWhat_9 : decode cX5_checkWhat 9 = .ok (.new 132, 3) := by decide +kernel
theorem dX5_checkWhat_12 : decode cX5_checkWhat 12 = .ok (.dup, 1) := by decide +kernel
theorem dX5_checkWhat_13 : decode cX5_checkWhat 13 = .ok (.ldc 249, 2) := by decide +kernel
theorem dX5_checkWhat_15 : decode cX5_checkWhat 15 = .ok (.invokespecial 136, 3) := by decide +kernel
theorem dX5_checkWhat_18 : decode cX5_checkWhat 18 = .ok (.athrow, 1) := by decide +kernel
theorem dX5_checkWhat_19 : decode cX5_checkWhat 19 = .ok (.return_, 1) := by decide +kernel
theorem dX5_counted_0 : decode cX5_counted 0 = .ok (.iload_n 1, 1) := by decide +kernel
theorem dX5_counted_1 : decode cX5_counted 1 = .ok (.tableswitch 174 0 9 #[55, 63, 74, 85, 93, 107, 121, 135, 146, 157], 55) := by decide +kernel
theorem dX5_counted_56 : decode cX5_counted 56 = .ok (.aload_n 0, 1) := by decide +kernel
theorem dX5_counted_57 : decode cX5_counted 57 = .ok (.getfield 10, 3) := by decide +kernel
theorem dX5_counted_60 : decode cX5_counted 60 = .ok (.getfield 251, 3) := by decide +kernel
theorem dX5_counted_63 : decode cX5_counted 63 = .ok (.ireturn, 1) := by decide +kernel
theorem dX5_counted_64 : decode cX5_counted 64 = .ok (.aload_n 0, 1) := by decide +kernel
theorem dX5_counted_65 : decode cX5_counted 65 = .ok (.getfield 10, 3) := by decide +kernel
theorem dX5_counted_68 : decode cX5_counted 68 = .ok (.getfield 37, 3) := by decide +kernel
theorem dX5_counted_71 : decode cX5_counted 71 = .ok (.getfield 41, 3) := by decide +kernel
theorem dX5_counted_74 : decode cX5_counted 74 = .ok (.ireturn, 1) := by decide +kernel
theorem dX5_counted_75 : decode cX5_counted 75 = .ok (.aload_n 0, 1) := by decide +kernel
theorem dX5_counted_76 : decode cX5_counted 76 = .ok (.getfield 10, 3) := by decide +kernel
theorem dX5_counted_79 : decode cX5_counted 79 = .ok (.getfield 37, 3) := by decide +kernel
theorem dX5_counted_82 : decode cX5_counted 82 = .ok (.getfield 254, 3) := by decide +kernel
theorem dX5_counted_85 : decode cX5_counted 85 = .ok (.ireturn, 1) := by decide +kernel
theorem dX5_counted_86 : decode cX5_counted 86 = .ok (.aload_n 0, 1) := by decide +kernel
theorem dX5_counted_87 : decode cX5_counted 87 = .ok (.getfield 10, 3) := by decide +kernel
theorem dX5_counted_90 : decode cX5_counted 90 = .ok (.invokevirtual 257, 3) := by decide +kernel
theorem dX5_counted_93 : decode cX5_counted 93 = .ok (.ireturn, 1) := by decide +kernel
theorem dX5_counted_94 : decode cX5_counted 94 = .ok (.aload_n 0, 1) := by decide +kernel
theorem dX5_counted_95 : decode cX5_counted 95 = .ok (.getfield 10, 3) := by decide +kernel
theorem dX5_counted_98 : decode cX5_counted 98 = .ok (.getfield 90, 3) := by decide +kernel
theorem dX5_counted_101 : decode cX5_counted 101 = .ok (.getfield 260, 3) := by decide +kernel
theorem dX5_counted_104 : decode cX5_counted 104 = .ok (.invokestatic 263, 3) := by decide +kernel
theorem dX5_counted_107 : decode cX5_counted 107 = .ok (.ireturn, 1) := by decide +kernel
theorem dX5_counted_108 : decode cX5_counted 108 = .ok (.aload_n 0, 1) := by decide +kernel
theorem dX5_counted_109 : decode cX5_counted 109 = .ok (.getfield 10, 3) := by decide +kernel
theorem dX5_counted_112 : decode cX5_counted 112 = .ok (.getfield 90, 3) := by decide +kernel
theorem dX5_counted_115 : decode cX5_counted 115 = .ok (.getfield 267, 3) := by decide +kernel
theorem dX5_counted_118 : decode cX5_counted 118 = .ok (.invokestatic 263, 3) := by decide +kernel
theorem dX5_counted_121 : decode cX5_counted 121 = .ok (.ireturn, 1) := by decide +kernel
theorem dX5_counted_122 : decode cX5_counted 122 = .ok (.aload_n 0, 1) := by decide +kernel
theorem dX5_counted_123 : decode cX5_counted 123 = .ok (.getfield 10, 3) := by decide +kernel
theorem dX5_counted_126 : decode cX5_counted 126 = .ok (.getfield 90, 3) := by decide +kernel
theorem dX5_counted_129 : decode cX5_counted 129 = .ok (.getfield 270, 3) := by decide +kernel
theorem dX5_counted_132 : decode cX5_counted 132 = .ok (.invokestatic 263, 3) := by decide +kernel
theorem dX5_counted_135 : decode cX5_counted 135 = .ok (.ireturn, 1) := by decide +kernel
theorem dX5_counted_136 : decode cX5_counted 136 = .ok (.aload_n 0, 1) := by decide +kernel
theorem dX5_counted_137 : decode cX5_counted 137 = .ok (.getfield 10, 3) := by decide +kernel
theorem dX5_counted_140 : decode cX5_counted 140 = .ok (.getfield 113, 3) := by decide +kernel
theorem dX5_counted_143 : decode cX5_counted 143 = .ok (.invokestatic 105, 3) := by decide +kernel
theorem dX5_counted_146 : decode cX5_counted 146 = .ok (.ireturn, 1) := by decide +kernel
theorem dX5_counted_147 : decode cX5_counted 147 = .ok (.aload_n 0, 1) := by decide +kernel
theorem dX5_counted_148 : decode cX5_counted 148 = .ok (.getfield 10, 3) := by decide +kernel
theorem dX5_counted_151 : decode cX5_counted 151 = .ok (.getfield 117, 3) := by decide +kernel
theorem dX5_counted_154 : decode cX5_counted 154 = .ok (.invokestatic 105, 3) := by decide +kernel
theorem dX5_counted_157 : decode cX5_counted 157 = .ok (.ireturn, 1) := by decide +kernel
theorem dX5_counted_158 : decode cX5_counted 158 = .ok (.bipush 8, 2) := by decide +kernel
theorem dX5_counted_160 : decode cX5_counted 160 = .ok (.aload_n 0, 1) := by decide +kernel
theorem dX5_counted_161 : decode cX5_counted 161 = .ok (.getfield 10, 3) := by decide +kernel
theorem dX5_counted_164 : decode cX5_counted 164 = .ok (.getfield 90, 3) := by decide +kernel
theorem dX5_counted_167 : decode cX5_counted 167 = .ok (.getfield 102, 3) := by decide +kernel
theorem dX5_counted_170 : decode cX5_counted 170 = .ok (.invokestatic 263, 3) := by decide +kernel
theorem dX5_counted_173 : decode cX5_counted 173 = .ok (.isub, 1) := by decide +kernel
theorem dX5_counted_174 : decode cX5_counted 174 = .ok (.ireturn, 1) := by decide +kernel
theorem dX5_counted_175 : decode cX5_counted 175 = .ok (.aload_n 0, 1) := by decide +kernel
theorem dX5_counted_176 : decode cX5_counted 176 = .ok (.getfield 22, 3) := by decide +kernel
theorem dX5_counted_179 : decode cX5_counted 179 = .ok (.getfield 179, 3) := by decide +kernel
theorem dX5_counted_182 : decode cX5_counted 182 = .ok (.ireturn, 1) := by decide +kernel
theorem dX5_outlook_0 : decode cX5_outlook 0 = .ok (.aload_n 0, 1) := by decide +kernel
theorem dX5_outlook_1 : decode cX5_outlook 1 = .ok (.getfield 16, 3) := by decide +kernel
theorem dX5_outlook_4 : decode cX5_outlook 4 = .ok (.aload_n 0, 1) := by decide +kernel
theorem dX5_outlook_5 : decode cX5_outlook 5 = .ok (.getfield 10, 3) := by decide +kernel
theorem dX5_outlook_8 : decode cX5_outlook 8 = .ok (.invokevirtual 273, 3) := by decide +kernel
theorem dX5_outlook_11 : decode cX5_outlook 11 = .ok (.aload_n 0, 1) := by decide +kernel
theorem dX5_outlook_12 : decode cX5_outlook 12 = .ok (.getfield 16, 3) := by decide +kernel
theorem dX5_outlook_15 : decode cX5_outlook 15 = .ok (.iload_n 1, 1) := by decide +kernel
theorem dX5_outlook_16 : decode cX5_outlook 16 = .ok (.invokevirtual 140, 3) := by decide +kernel
theorem dX5_outlook_19 : decode cX5_outlook 19 = .ok (.istore_n 3, 1) := by decide +kernel
theorem dX5_outlook_20 : decode cX5_outlook 20 = .ok (.iload_n 2, 1) := by decide +kernel
theorem dX5_outlook_21 : decode cX5_outlook 21 = .ok (.tableswitch 68 0 2 #[27, 29, 57], 27) := by decide +kernel
theorem dX5_outlook_48 : decode cX5_outlook 48 = .ok (.iload_n 3, 1) := by decide +kernel
theorem dX5_outlook_49 : decode cX5_outlook 49 = .ok (.ireturn, 1) := by decide +kernel
theorem dX5_outlook_50 : decode cX5_outlook 50 = .ok (.aload_n 0, 1) := by decide +kernel
theorem dX5_outlook_51 : decode cX5_outlook 51 = .ok (.getfield 16, 3) := by decide +kernel
theorem dX5_outlook_54 : decode cX5_outlook 54 = .ok (.getfield 90, 3) := by decide +kernel
theorem dX5_outlook_57 : decode cX5_outlook 57 = .ok (.getfield 270, 3) := by decide +kernel
theorem dX5_outlook_60 : decode cX5_outlook 60 = .ok (.invokestatic 263, 3) := by decide +kernel
theorem dX5_outlook_63 : decode cX5_outlook 63 = .ok (.aload_n 0, 1) := by decide +kernel
theorem dX5_outlook_64 : decode cX5_outlook 64 = .ok (.getfield 10, 3) := by decide +kernel
theorem dX5_outlook_67 : decode cX5_outlook 67 = .ok (.getfield 90, 3) := by decide +kernel
theorem dX5_outlook_70 : decode cX5_outlook 70 = .ok (.getfield 270, 3) := by decide +kernel
theorem dX5_outlook_73 : decode cX5_outlook 73 = .ok (.invokestatic 263, 3) := by decide +kernel
theorem dX5_outlook_76 : decode cX5_outlook 76 = .ok (.isub, 1) := by decide +kernel
theorem dX5_outlook_77 : decode cX5_outlook 77 = .ok (.ireturn, 1) := by decide +kernel
theorem dX5_outlook_78 : decode cX5_outlook 78 = .ok (.aload_n 0, 1) := by decide +kernel
theorem dX5_outlook_79 : decode cX5_outlook 79 = .ok (.getfield 16, 3) := by decide +kernel
theorem dX5_outlook_82 : decode cX5_outlook 82 = .ok (.getfield 37, 3) := by decide +kernel
theorem dX5_outlook_85 : decode cX5_outlook 85 = .ok (.getfield 41, 3) := by decide +kernel
theorem dX5_outlook_88 : decode cX5_outlook 88 = .ok (.ireturn, 1) := by decide +kernel
theorem dX5_outlook_89 : decode cX5_outlook 89 = .ok (.aload_n 0, 1) := by decide +kernel
theorem dX5_outlook_90 : decode cX5_outlook 90 = .ok (.getfield 16, 3) := by decide +kernel
theorem dX5_outlook_93 : decode cX5_outlook 93 = .ok (.invokevirtual 257, 3) := by decide +kernel
theorem dX5_outlook_96 : decode cX5_outlook 96 = .ok (.ireturn, 1) := by decide +kernel
theorem dX5_darkWith_0 : decode cX5_darkWith 0 = .ok (.aload_n 0, 1) := by decide +kernel
theorem dX5_darkWith_1 : decode cX5_darkWith 1 = .ok (.getfield 16, 3) := by decide +kernel
theorem dX5_darkWith_4 : decode cX5_darkWith 4 = .ok (.aload_n 0, 1) := by decide +kernel
theorem dX5_darkWith_5 : decode cX5_darkWith 5 = .ok (.getfield 10, 3) := by decide +kernel
theorem dX5_darkWith_8 : decode cX5_darkWith 8 = .ok (.invokevirtual 273, 3) := by decide +kernel
theorem dX5_darkWith_11 : decode cX5_darkWith 11 = .ok (.aload_n 0, 1) := by decide +kernel
theorem dX5_darkWith_12 : decode cX5_darkWith 12 = .ok (.getfield 16, 3) := by decide +kernel
theorem dX5_darkWith_15 : decode cX5_darkWith 15 = .ok (.getfield 83, 3) := by decide +kernel
theorem dX5_darkWith_18 : decode cX5_darkWith 18 = .ok (.iconst 0, 1) := by decide +kernel
theorem dX5_darkWith_19 : decode cX5_darkWith 19 = .ok (.iload_n 1, 1) := by decide +kernel
theorem dX5_darkWith_20 : decode cX5_darkWith 20 = .ok (.invokestatic 109, 3) := by decide +kernel
theorem dX5_darkWith_23 : decode cX5_darkWith 23 = .ok (.aload_n 0, 1) := by decide +kernel
theorem dX5_darkWith_24 : decode cX5_darkWith 24 = .ok (.getfield 16, 3) := by decide +kernel
theorem dX5_darkWith_27 : decode cX5_darkWith 27 = .ok (.iload_n 2, 1) := by decide +kernel
theorem dX5_darkWith_28 : decode cX5_darkWith 28 = .ok (.iload_n 3, 1) := by decide +kernel
theorem dX5_darkWith_29 : decode cX5_darkWith 29 = .ok (.invokevirtual 58, 3) := by decide +kernel
theorem dX5_darkWith_32 : decode cX5_darkWith 32 = .ok (.istore 4, 2) := by decide +kernel
theorem dX5_darkWith_34 : decode cX5_darkWith 34 = .ok (.iconst 0, 1) := by decide +kernel
theorem dX5_darkWith_35 : decode cX5_darkWith 35 = .ok (.istore 5, 2) := by decide +kernel
theorem dX5_darkWith_37 : decode cX5_darkWith 37 = .ok (.iconst 0, 1) := by decide +kernel
theorem dX5_darkWith_38 : decode cX5_darkWith 38 = .ok (.istore 6, 2) := by decide +kernel
theorem dX5_darkWith_40 : decode cX5_darkWith 40 = .ok (.iload 6, 2) := by decide +kernel
theorem dX5_darkWith_42 : decode cX5_darkWith 42 = .ok (.sipush 480, 3) := by decide +kernel
theorem dX5_darkWith_45 : decode cX5_darkWith 45 = .ok (.if_icmp .ge 74, 3) := by decide +kernel
theorem dX5_darkWith_48 : decode cX5_darkWith 48 = .ok (.aload_n 0, 1) := by decide +kernel
theorem dX5_darkWith_49 : decode cX5_darkWith 49 = .ok (.getfield 16, 3) := by decide +kernel
theorem dX5_darkWith_52 : decode cX5_darkWith 52 = .ok (.invokevirtual 276, 3) := by decide +kernel
theorem dX5_darkWith_55 : decode cX5_darkWith 55 = .ok (.aload_n 0, 1) := by decide +kernel
theorem dX5_darkWith_56 : decode cX5_darkWith 56 = .ok (.getfield 16, 3) := by decide +kernel
theorem dX5_darkWith_59 : decode cX5_darkWith 59 = .ok (.getfield 37, 3) := by decide +kernel
theorem dX5_darkWith_62 : decode cX5_darkWith 62 = .ok (.iload 4, 2) := by decide +kernel
theorem dX5_darkWith_64 : decode cX5_darkWith 64 = .ok (.invokevirtual 62, 3) := by decide +kernel
theorem dX5_darkWith_67 : decode cX5_darkWith 67 = .ok (.istore 7, 2) := by decide +kernel
theorem dX5_darkWith_69 : decode cX5_darkWith 69 = .ok (.iload 7, 2) := by decide +kernel
theorem dX5_darkWith_71 : decode cX5_darkWith 71 = .ok (.iconst (-1), 1) := by decide +kernel
theorem dX5_darkWith_72 : decode cX5_darkWith 72 = .ok (.if_icmp .ne 6, 3) := by decide +kernel
theorem dX5_darkWith_75 : decode cX5_darkWith 75 = .ok (.iload 5, 2) := by decide +kernel
theorem dX5_darkWith_77 : decode cX5_darkWith 77 = .ok (.ireturn, 1) := by decide +kernel
theorem dX5_darkWith_78 : decode cX5_darkWith 78 = .ok (.aload_n 0, 1) := by decide +kernel
theorem dX5_darkWith_79 : decode cX5_darkWith 79 = .ok (.getfield 16, 3) := by decide +kernel
theorem dX5_darkWith_82 : decode cX5_darkWith 82 = .ok (.aload_n 0, 1) := by decide +kernel
theorem dX5_darkWith_83 : decode cX5_darkWith 83 = .ok (.getfield 16, 3) := by decide +kernel
theorem dX5_darkWith_86 : decode cX5_darkWith 86 = .ok (.getfield 37, 3) := by decide +kernel
theorem dX5_darkWith_89 : decode cX5_darkWith 89 = .ok (.getfield 279, 3) := by decide +kernel
theorem dX5_darkWith_92 : decode cX5_darkWith 92 = .ok (.iload 7, 2) := by decide +kernel
theorem dX5_darkWith_94 : decode cX5_darkWith 94 = .ok (.invokestatic 79, 3) := by decide +kernel
theorem dX5_darkWith_97 : decode cX5_darkWith 97 = .ok (.invokevirtual 281, 3) := by decide +kernel
theorem dX5_darkWith_100 : decode cX5_darkWith 100 = .ok (.ifCond .ne 6, 3) := by decide +kernel
theorem dX5_darkWith_103 : decode cX5_darkWith 103 = .ok (.iinc 5 1, 3) := by decide +kernel
theorem dX5_darkWith_106 : decode cX5_darkWith 106 = .ok (.aload_n 0, 1) := by decide +kernel
theorem dX5_darkWith_107 : decode cX5_darkWith 107 = .ok (.getfield 16, 3) := by decide +kernel
theorem dX5_darkWith_110 : decode cX5_darkWith 110 = .ok (.invokevirtual 284, 3) := by decide +kernel
theorem dX5_darkWith_113 : decode cX5_darkWith 113 = .ok (.iinc 6 1, 3) := by decide +kernel
theorem dX5_darkWith_116 : decode cX5_darkWith 116 = .ok (.goto (-76), 3) := by decide +kernel
theorem dX5_darkWith_119 : decode cX5_darkWith 119 = .ok (.iload 5, 2) := by decide +kernel
theorem dX5_darkWith_121 : decode cX5_darkWith 121 = .ok (.ireturn, 1) := by decide +kernel
theorem dX5_at_0 : decode cX5_at 0 = .ok (.iload_n 1, 1) := by decide +kernel
theorem dX5_at_1 : decode cX5_at 1 = .ok (.ifCond .lt 15, 3) := by decide +kernel
theorem dX5_at_4 : decode cX5_at 4 = .ok (.iload_n 1, 1) := by decide +kernel
theorem dX5_at_5 : decode cX5_at 5 = .ok (.aload_n 0, 1) := by decide +kernel
theorem dX5_at_6 : decode cX5_at 6 = .ok (.arraylength, 1) := by decide +kernel
theorem dX5_at_7 : decode cX5_at 7 = .ok (.if_icmp .ge 9, 3) := by decide +kernel
theorem dX5_at_10 : decode cX5_at 10 = .ok (.aload_n 0, 1) := by decide +kernel
theorem dX5_at_11 : decode cX5_at 11 = .ok (.iload_n 1, 1) := by decide +kernel
theorem dX5_at_12 : decode cX5_at 12 = .ok (.iaload, 1) := by decide +kernel
theorem dX5_at_13 : decode cX5_at 13 = .ok (.goto 4, 3) := by decide +kernel
theorem dX5_at_16 : decode cX5_at 16 = .ok (.iconst 0, 1) := by decide +kernel
theorem dX5_at_17 : decode cX5_at 17 = .ok (.ireturn, 1) := by decide +kernel
theorem dX5_put_0 : decode cX5_put 0 = .ok (.iload_n 1, 1) := by decide +kernel
theorem dX5_put_1 : decode cX5_put 1 = .ok (.ifCond .lt 13, 3) := by decide +kernel
theorem dX5_put_4 : decode cX5_put 4 = .ok (.iload_n 1, 1) := by decide +kernel
theorem dX5_put_5 : decode cX5_put 5 = .ok (.aload_n 0, 1) := by decide +kernel
theorem dX5_put_6 : decode cX5_put 6 = .ok (.arraylength, 1) := by decide +kernel
theorem dX5_put_7 : decode cX5_put 7 = .ok (.if_icmp .ge 7, 3) := by decide +kernel
theorem dX5_put_10 : decode cX5_put 10 = .ok (.aload_n 0, 1) := by decide +kernel
theorem dX5_put_11 : decode cX5_put 11 = .ok (.iload_n 1, 1) := by decide +kernel
theorem dX5_put_12 : decode cX5_put 12 = .ok (.iload_n 2, 1) := by decide +kernel
theorem dX5_put_13 : decode cX5_put 13 = .ok (.iastore, 1) := by decide +kernel
theorem dX5_put_14 : decode cX5_put 14 = .ok (.return_, 1) := by decide +kernel
theorem dX5_raise_0 : decode cX5_raise 0 = .ok (.iload_n 1, 1) := by decide +kernel
theorem dX5_raise_1 : decode cX5_raise 1 = .ok (.ifCond .lt 16, 3) := by decide +kernel
theorem dX5_raise_4 : decode cX5_raise 4 = .ok (.iload_n 1, 1) := by decide +kernel
theorem dX5_raise_5 : decode cX5_raise 5 = .ok (.aload_n 0, 1) := by decide +kernel
theorem dX5_raise_6 : decode cX5_raise 6 = .ok (.arraylength, 1) := by decide +kernel
theorem dX5_raise_7 : decode cX5_raise 7 = .ok (.if_icmp .ge 10, 3) := by decide +kernel
theorem dX5_raise_10 : decode cX5_raise 10 = .ok (.aload_n 0, 1) := by decide +kernel
theorem dX5_raise_11 : decode cX5_raise 11 = .ok (.iload_n 1, 1) := by decide +kernel
theorem dX5_raise_12 : decode cX5_raise 12 = .ok (.dup2, 1) := by decide +kernel
theorem dX5_raise_13 : decode cX5_raise 13 = .ok (.iaload, 1) := by decide +kernel
theorem dX5_raise_14 : decode cX5_raise 14 = .ok (.iload_n 2, 1) := by decide +kernel
theorem dX5_raise_15 : decode cX5_raise 15 = .ok (.iadd, 1) := by decide +kernel
theorem dX5_raise_16 : decode cX5_raise 16 = .ok (.iastore, 1) := by decide +kernel
theorem dX5_raise_17 : decode cX5_raise 17 = .ok (.return_, 1) := by decide +kernel
theorem dX5_sumOf_0 : decode cX5_sumOf 0 = .ok (.iconst 0, 1) := by decide +kernel
theorem dX5_sumOf_1 : decode cX5_sumOf 1 = .ok (.istore_n 1, 1) := by decide +kernel
theorem dX5_sumOf_2 : decode cX5_sumOf 2 = .ok (.iconst 0, 1) := by decide +kernel
theorem dX5_sumOf_3 : decode cX5_sumOf 3 = .ok (.istore_n 2, 1) := by decide +kernel
theorem dX5_sumOf_4 : decode cX5_sumOf 4 = .ok (.iload_n 2, 1) := by decide +kernel
theorem dX5_sumOf_5 : decode cX5_sumOf 5 = .ok (.aload_n 0, 1) := by decide +kernel
theorem dX5_sumOf_6 : decode cX5_sumOf 6 = .ok (.arraylength, 1) := by decide +kernel
theorem dX5_sumOf_7 : decode cX5_sumOf 7 = .ok (.if_icmp .ge 15, 3) := by decide +kernel
theorem dX5_sumOf_10 : decode cX5_sumOf 10 = .ok (.iload_n 1, 1) := by decide +kernel
theorem dX5_sumOf_11 : decode cX5_sumOf 11 = .ok (.aload_n 0, 1) := by decide +kernel
theorem dX5_sumOf_12 : decode cX5_sumOf 12 = .ok (.iload_n 2, 1) := by decide +kernel
theorem dX5_sumOf_13 : decode cX5_sumOf 13 = .ok (.iaload, 1) := by decide +kernel
theorem dX5_sumOf_14 : decode cX5_sumOf 14 = .ok (.iadd, 1) := by decide +kernel
theorem dX5_sumOf_15 : decode cX5_sumOf 15 = .ok (.istore_n 1, 1) := by decide +kernel
theorem dX5_sumOf_16 : decode cX5_sumOf 16 = .ok (.iinc 2 1, 3) := by decide +kernel
theorem dX5_sumOf_19 : decode cX5_sumOf 19 = .ok (.goto (-15), 3) := by decide +kernel
theorem dX5_sumOf_22 : decode cX5_sumOf 22 = .ok (.iload_n 1, 1) := by decide +kernel
theorem dX5_sumOf_23 : decode cX5_sumOf 23 = .ok (.ireturn, 1) := by decide +kernel
theorem dX5_copyRow_0 : decode cX5_copyRow 0 = .ok (.iconst 0, 1) := by decide +kernel
theorem dX5_copyRow_1 : decode cX5_copyRow 1 = .ok (.istore_n 2, 1) := by decide +kernel
theorem dX5_copyRow_2 : decode cX5_copyRow 2 = .ok (.iload_n 2, 1) := by decide +kernel
theorem dX5_copyRow_3 : decode cX5_copyRow 3 = .ok (.aload_n 0, 1) := by decide +kernel
theorem dX5_copyRow_4 : decode cX5_copyRow 4 = .ok (.arraylength, 1) := by decide +kernel
theorem dX5_copyRow_5 : decode cX5_copyRow 5 = .ok (.if_icmp .ge 21, 3) := by decide +kernel
theorem dX5_copyRow_8 : decode cX5_copyRow 8 = .ok (.iload_n 2, 1) := by decide +kernel
theorem dX5_copyRow_9 : decode cX5_copyRow 9 = .ok (.aload_n 1, 1) := by decide +kernel
theorem dX5_copyRow_10 : decode cX5_copyRow 10 = .ok (.arraylength, 1) := by decide +kernel
theorem dX5_copyRow_11 : decode cX5_copyRow 11 = .ok (.if_icmp .ge 15, 3) := by decide +kernel
theorem dX5_copyRow_14 : decode cX5_copyRow 14 = .ok (.aload_n 1, 1) := by decide +kernel
theorem dX5_copyRow_15 : decode cX5_copyRow 15 = .ok (.iload_n 2, 1) := by decide +kernel
theorem dX5_copyRow_16 : decode cX5_copyRow 16 = .ok (.aload_n 0, 1) := by decide +kernel
theorem dX5_copyRow_17 : decode cX5_copyRow 17 = .ok (.iload_n 2, 1) := by decide +kernel
theorem dX5_copyRow_18 : decode cX5_copyRow 18 = .ok (.iaload, 1) := by decide +kernel
theorem dX5_copyRow_19 : decode cX5_copyRow 19 = .ok (.iastore, 1) := by decide +kernel
theorem dX5_copyRow_20 : decode cX5_copyRow 20 = .ok (.iinc 2 1, 3) := by decide +kernel
theorem dX5_copyRow_23 : decode cX5_copyRow 23 = .ok (.goto (-21), 3) := by decide +kernel
theorem dX5_copyRow_26 : decode cX5_copyRow 26 = .ok (.return_, 1) := by decide +kernel
theorem dX5_numberOf_0 : decode cX5_numberOf 0 = .ok (.iload_n 0, 1) := by decide +kernel
theorem dX5_numberOf_1 : decode cX5_numberOf 1 = .ok (.ifCond .eq 7, 3) := by decide +kernel
theorem dX5_numberOf_4 : decode cX5_numberOf 4 = .ok (.iconst 1, 1) := by decide +kernel
theorem dX5_numberOf_5 : decode cX5_numberOf 5 = .ok (.goto 4, 3) := by decide +kernel
theorem dX5_numberOf_8 : decode cX5_numberOf 8 = .ok (.iconst 0, 1) := by decide +kernel
theorem dX5_numberOf_9 : decode cX5_numberOf 9 = .ok (.ireturn, 1) := by decide +kernel
theorem dL_low_0 : decode cL_low 0 = .ok (.iload_n 0, 1) := by decide +kernel
theorem dL_low_1 : decode cL_low 1 = .ok (.ldc 7, 2) := by decide +kernel
theorem dL_low_3 : decode cL_low 3 = .ok (.iand, 1) := by decide +kernel
theorem dL_low_4 : decode cL_low 4 = .ok (.iload_n 1, 1) := by decide +kernel
theorem dL_low_5 : decode cL_low 5 = .ok (.irem, 1) := by decide +kernel
theorem dL_low_6 : decode cL_low 6 = .ok (.ireturn, 1) := by decide +kernel
theorem dL_cell_0 : decode cL_cell 0 = .ok (.iload_n 1, 1) := by decide +kernel
theorem dL_cell_1 : decode cL_cell 1 = .ok (.aload_n 0, 1) := by decide +kernel
theorem dL_cell_2 : decode cL_cell 2 = .ok (.arraylength, 1) := by decide +kernel
theorem dL_cell_3 : decode cL_cell 3 = .ok (.if_icmp .ge 9, 3) := by decide +kernel
theorem dL_cell_6 : decode cL_cell 6 = .ok (.aload_n 0, 1) := by decide +kernel
theorem dL_cell_7 : decode cL_cell 7 = .ok (.iload_n 1, 1) := by decide +kernel
theorem dL_cell_8 : decode cL_cell 8 = .ok (.iaload, 1) := by decide +kernel
theorem dL_cell_9 : decode cL_cell 9 = .ok (.goto 11, 3) := by decide +kernel
theorem dL_cell_12 : decode cL_cell 12 = .ok (.ldc 8, 2) := by decide +kernel
theorem dL_cell_14 : decode cL_cell 14 = .ok (.iload_n 1, 1) := by decide +kernel
theorem dL_cell_15 : decode cL_cell 15 = .ok (.imul, 1) := by decide +kernel
theorem dL_cell_16 : decode cL_cell 16 = .ok (.sipush 977, 3) := by decide +kernel
theorem dL_cell_19 : decode cL_cell 19 = .ok (.iadd, 1) := by decide +kernel
theorem dL_cell_20 : decode cL_cell 20 = .ok (.ireturn, 1) := by decide +kernel
theorem dL_come_0 : decode cL_come 0 = .ok (.aload_n 0, 1) := by decide +kernel
theorem dL_come_1 : decode cL_come 1 = .ok (.iload_n 1, 1) := by decide +kernel
theorem dL_come_2 : decode cL_come 2 = .ok (.iload_n 2, 1) := by decide +kernel
theorem dL_come_3 : decode cL_come 3 = .ok (.invokevirtual 9, 3) := by decide +kernel
theorem dL_come_6 : decode cL_come 6 = .ok (.ireturn, 1) := by decide +kernel
theorem dL_come_7 : decode cL_come 7 = .ok (.astore_n 3, 1) := by decide +kernel
theorem dL_come_8 : decode cL_come 8 = .ok (.bipush (-3), 2) := by decide +kernel
theorem dL_come_10 : decode cL_come 10 = .ok (.ireturn, 1) := by decide +kernel
theorem dL_undo_0 : decode cL_undo 0 = .ok (.aload_n 0, 1) := by decide +kernel
theorem dL_undo_1 : decode cL_undo 1 = .ok (.invokevirtual 17, 3) := by decide +kernel
theorem dL_undo_4 : decode cL_undo 4 = .ok (.ireturn, 1) := by decide +kernel
theorem dL_undo_5 : decode cL_undo 5 = .ok (.astore_n 1, 1) := by decide +kernel
theorem dL_undo_6 : decode cL_undo 6 = .ok (.bipush (-3), 2) := by decide +kernel
theorem dL_undo_8 : decode cL_undo 8 = .ok (.ireturn, 1) := by decide +kernel
theorem dL_turn_0 : decode cL_turn 0 = .ok (.aload_n 0, 1) := by decide +kernel
theorem dL_turn_1 : decode cL_turn 1 = .ok (.iload_n 1, 1) := by decide +kernel
theorem dL_turn_2 : decode cL_turn 2 = .ok (.iload_n 2, 1) := by decide +kernel
theorem dL_turn_3 : decode cL_turn 3 = .ok (.invokevirtual 21, 3) := by decide +kernel
theorem dL_turn_6 : decode cL_turn 6 = .ok (.ireturn, 1) := by decide +kernel
theorem dL_turn_7 : decode cL_turn 7 = .ok (.astore_n 3, 1) := by decide +kernel
theorem dL_turn_8 : decode cL_turn 8 = .ok (.iconst (-1), 1) := by decide +kernel
theorem dL_turn_9 : decode cL_turn 9 = .ok (.ireturn, 1) := by decide +kernel
theorem dL_stairs_0 : decode cL_stairs 0 = .ok (.iconst 0, 1) := by decide +kernel
theorem dL_stairs_1 : decode cL_stairs 1 = .ok (.istore_n 1, 1) := by decide +kernel
theorem dL_stairs_2 : decode cL_stairs 2 = .ok (.iconst 0, 1) := by decide +kernel
theorem dL_stairs_3 : decode cL_stairs 3 = .ok (.istore_n 2, 1) := by decide +kernel
theorem dL_stairs_4 : decode cL_stairs 4 = .ok (.iconst 0, 1) := by decide +kernel
theorem dL_stairs_5 : decode cL_stairs 5 = .ok (.istore_n 3, 1) := by decide +kernel
theorem dL_stairs_6 : decode cL_stairs 6 = .ok (.iconst 0, 1) := by decide +kernel
theorem dL_stairs_7 : decode cL_stairs 7 = .ok (.istore 4, 2) := by decide +kernel
theorem dL_stairs_9 : decode cL_stairs 9 = .ok (.iconst 0, 1) := by decide +kernel
theorem dL_stairs_10 : decode cL_stairs 10 = .ok (.istore 5, 2) := by decide +kernel
theorem dL_stairs_12 : decode cL_stairs 12 = .ok (.iconst 0, 1) := by decide +kernel
theorem dL_stairs_13 : decode cL_stairs 13 = .ok (.istore 6, 2) := by decide +kernel
theorem dL_stairs_15 : decode cL_stairs 15 = .ok (.iconst 1, 1) := by decide +kernel
theorem dL_stairs_16 : decode cL_stairs 16 = .ok (.istore 7, 2) := by decide +kernel
theorem dL_stairs_18 : decode cL_stairs 18 = .ok (.iconst 0, 1) := by decide +kernel
theorem dL_stairs_19 : decode cL_stairs 19 = .ok (.istore 8, 2) := by decide +kernel
theorem dL_stairs_21 : decode cL_stairs 21 = .ok (.iload 8, 2) := by decide +kernel
theorem dL_stairs_23 : decode cL_stairs 23 = .ok (.bipush 8, 2) := by decide +kernel
theorem dL_stairs_25 : decode cL_stairs 25 = .ok (.if_icmp .ge 201, 3) := by decide +kernel
theorem dL_stairs_28 : decode cL_stairs 28 = .ok (.iload 7, 2) := by decide +kernel
theorem dL_stairs_30 : decode cL_stairs 30 = .ok (.ifCond .eq 196, 3) := by decide +kernel
theorem dL_stairs_33 : decode cL_stairs 33 = .ok (.aload_n 0, 1) := by decide +kernel
theorem dL_stairs_34 : decode cL_stairs 34 = .ok (.iload 8, 2) := by decide +kernel
theorem dL_stairs_36 : decode cL_stairs 36 = .ok (.iconst 0, 1) := by decide +kernel
theorem dL_stairs_37 : decode cL_stairs 37 = .ok (.invokevirtual 26, 3) := by decide +kernel
theorem dL_stairs_40 : decode cL_stairs 40 = .ok (.istore 9, 2) := by decide +kernel
theorem dL_stairs_42 : decode cL_stairs 42 = .ok (.aload_n 0, 1) := by decide +kernel
theorem dL_stairs_43 : decode cL_stairs 43 = .ok (.iload 8, 2) := by decide +kernel
theorem dL_stairs_45 : decode cL_stairs 45 = .ok (.iconst 1, 1) := by decide +kernel
theorem dL_stairs_46 : decode cL_stairs 46 = .ok (.invokevirtual 26, 3) := by decide +kernel
theorem dL_stairs_49 : decode cL_stairs 49 = .ok (.istore 10, 2) := by decide +kernel
theorem dL_stairs_51 : decode cL_stairs 51 = .ok (.aload_n 0, 1) := by decide +kernel
theorem dL_stairs_52 : decode cL_stairs 52 = .ok (.bipush 8, 2) := by decide +kernel
theorem dL_stairs_54 : decode cL_stairs 54 = .ok (.invokevirtual 29, 3) := by decide +kernel
theorem dL_stairs_57 : decode cL_stairs 57 = .ok (.iconst 1, 1) := by decide +kernel
theorem dL_stairs_58 : decode cL_stairs 58 = .ok (.if_icmp .ne 7, 3) := by decide +kernel
theorem dL_stairs_61 : decode cL_stairs 61 = .ok (.iconst 1, 1) := by decide +kernel
theorem dL_stairs_62 : decode cL_stairs 62 = .ok (.goto 4, 3) := by decide +kernel
theorem dL_stairs_65 : decode cL_stairs 65 = .ok (.iconst 0, 1) := by decide +kernel
theorem dL_stairs_66 : decode cL_stairs 66 = .ok (.istore 11, 2) := by decide +kernel
theorem dL_stairs_68 : decode cL_stairs 68 = .ok (.iload 10, 2) := by decide +kernel
theorem dL_stairs_70 : decode cL_stairs 70 = .ok (.ifCond .lt 68, 3) := by decide +kernel
theorem dL_stairs_73 : decode cL_stairs 73 = .ok (.iload 10, 2) := by decide +kernel
theorem dL_stairs_75 : decode cL_stairs 75 = .ok (.sipush 999, 3) := by decide +kernel
theorem dL_stairs_78 : decode cL_stairs 78 = .ok (.if_icmp .gt 60, 3) := by decide +kernel
theorem dL_stairs_81 : decode cL_stairs 81 = .ok (.iload 11, 2) := by decide +kernel
theorem dL_stairs_83 : decode cL_stairs 83 = .ok (.ifCond .eq 12, 3) := by decide +kernel
theorem dL_stairs_86 : decode cL_stairs 86 = .ok (.iload 9, 2) := by decide +kernel
theorem dL_stairs_88 : decode cL_stairs 88 = .ok (.iconst 3, 1) := by decide +kernel
theorem dL_stairs_89 : decode cL_stairs 89 = .ok (.if_icmp .ne 49, 3) := by decide +kernel
theorem dL_stairs_92 : decode cL_stairs 92 = .ok (.goto 42, 3) := by decide +kernel
theorem dL_stairs_95 : decode cL_stairs 95 = .ok (.iload 10, 2) := by decide +kernel
theorem dL_stairs_97 : decode cL_stairs 97 = .ok (.ifCond .ne 17, 3) := by decide +kernel
theorem dL_stairs_100 : decode cL_stairs 100 = .ok (.iload 9, 2) := by decide +kernel
theorem dL_stairs_102 : decode cL_stairs 102 = .ok (.aload_n 0, 1) := by decide +kernel
theorem dL_stairs_103 : decode cL_stairs 103 = .ok (.bipush 7, 2) := by decide +kernel
theorem dL_stairs_105 : decode cL_stairs 105 = .ok (.invokevirtual 29, 3) := by decide +kernel
theorem dL_stairs_108 : decode cL_stairs 108 = .ok (.if_icmp .ne 30, 3) := by decide +kernel
theorem dL_stairs_111 : decode cL_stairs 111 = .ok (.goto 23, 3) := by decide +kernel
theorem dL_stairs_114 : decode cL_stairs 114 = .ok (.iload 9, 2) := by decide +kernel
theorem dL_stairs_116 : decode cL_stairs 116 = .ok (.iload 10, 2) := by decide +kernel
theorem dL_stairs_118 : decode cL_stairs 118 = .ok (.aload_n 0, 1) := by decide +kernel
theorem dL_stairs_119 : decode cL_stairs 119 = .ok (.iconst 1, 1) := by decide +kernel
theorem dL_stairs_120 : decode cL_stairs 120 = .ok (.invokevirtual 33, 3) := by decide +kernel
theorem dL_stairs_123 : decode cL_stairs 123 = .ok (.if_icmp .gt 7, 3) := by decide +kernel
theorem dL_stairs_126 : decode cL_stairs 126 = .ok (.iconst 2, 1) := by decide +kernel
theorem dL_stairs_127 : decode cL_stairs 127 = .ok (.goto 4, 3) := by decide +kernel
theorem dL_stairs_130 : decode cL_stairs 130 = .ok (.iconst 3, 1) := by decide +kernel
theorem dL_stairs_131 : decode cL_stairs 131 = .ok (.if_icmp .ne 7, 3) := by decide +kernel
theorem dL_stairs_134 : decode cL_stairs 134 = .ok (.iconst 1, 1) := by decide +kernel
theorem dL_stairs_135 : decode cL_stairs 135 = .ok (.goto 4, 3) := by decide +kernel
theorem dL_stairs_138 : decode cL_stairs 138 = .ok (.iconst 0, 1) := by decide +kernel
theorem dL_stairs_139 : decode cL_stairs 139 = .ok (.istore 7, 2) := by decide +kernel
theorem dL_stairs_141 : decode cL_stairs 141 = .ok (.iload_n 1, 1) := by decide +kernel
theorem dL_stairs_142 : decode cL_stairs 142 = .ok (.aload_n 0, 1) := by decide +kernel
theorem dL_stairs_143 : decode cL_stairs 143 = .ok (.iload 8, 2) := by decide +kernel
theorem dL_stairs_145 : decode cL_stairs 145 = .ok (.iconst 3, 1) := by decide +kernel
theorem dL_stairs_146 : decode cL_stairs 146 = .ok (.invokevirtual 26, 3) := by decide +kernel
theorem dL_stairs_149 : decode cL_stairs 149 = .ok (.iadd, 1) := by decide +kernel
theorem dL_stairs_150 : decode cL_stairs 150 = .ok (.istore_n 1, 1) := by decide +kernel
theorem dL_stairs_151 : decode cL_stairs 151 = .ok (.iload_n 2, 1) := by decide +kernel
theorem dL_stairs_152 : decode cL_stairs 152 = .ok (.iload 9, 2) := by decide +kernel
theorem dL_stairs_154 : decode cL_stairs 154 = .ok (.iconst 2, 1) := by decide +kernel
theorem dL_stairs_155 : decode cL_stairs 155 = .ok (.if_icmp .lt 7, 3) := by decide +kernel
theorem dL_stairs_158 : decode cL_stairs 158 = .ok (.iconst 1, 1) := by decide +kernel
theorem dL_stairs_159 : decode cL_stairs 159 = .ok (.goto 4, 3) := by decide +kernel
theorem dL_stairs_162 : decode cL_stairs 162 = .ok (.iconst 0, 1) := by decide +kernel
theorem dL_stairs_163 : decode cL_stairs 163 = .ok (.iadd, 1) := by decide +kernel
theorem dL_stairs_164 : decode cL_stairs 164 = .ok (.istore_n 2, 1) := by decide +kernel
theorem dL_stairs_165 : decode cL_stairs 165 = .ok (.iload_n 3, 1) := by decide +kernel
theorem dL_stairs_166 : decode cL_stairs 166 = .ok (.aload_n 0, 1) := by decide +kernel
theorem dL_stairs_167 : decode cL_stairs 167 = .ok (.iload 8, 2) := by decide +kernel
theorem dL_stairs_169 : decode cL_stairs 169 = .ok (.iconst 4, 1) := by decide +kernel
theorem dL_stairs_170 : decode cL_stairs 170 = .ok (.invokevirtual 26, 3) := by decide +kernel
theorem dL_stairs_173 : decode cL_stairs 173 = .ok (.iadd, 1) := by decide +kernel
theorem dL_stairs_174 : decode cL_stairs 174 = .ok (.istore_n 3, 1) := by decide +kernel
theorem dL_stairs_175 : decode cL_stairs 175 = .ok (.iload 4, 2) := by decide +kernel
theorem dL_stairs_177 : decode cL_stairs 177 = .ok (.aload_n 0, 1) := by decide +kernel
theorem dL_stairs_178 : decode cL_stairs 178 = .ok (.iload 8, 2) := by decide +kernel
theorem dL_stairs_180 : decode cL_stairs 180 = .ok (.iconst 5, 1) := by decide +kernel
theorem dL_stairs_181 : decode cL_stairs 181 = .ok (.invokevirtual 26, 3) := by decide +kernel
theorem dL_stairs_184 : decode cL_stairs 184 = .ok (.iadd, 1) := by decide +kernel
theorem dL_stairs_185 : decode cL_stairs 185 = .ok (.istore 4, 2) := by decide +kernel
theorem dL_stairs_187 : decode cL_stairs 187 = .ok (.iload 5, 2) := by decide +kernel
theorem dL_stairs_189 : decode cL_stairs 189 = .ok (.aload_n 0, 1) := by decide +kernel
theorem dL_stairs_190 : decode cL_stairs 190 = .ok (.iload 8, 2) := by decide +kernel
theorem dL_stairs_192 : decode cL_stairs 192 = .ok (.bipush 6, 2) := by decide +kernel
theorem dL_stairs_194 : decode cL_stairs 194 = .ok (.invokevirtual 26, 3) := by decide +kernel
theorem dL_stairs_197 : decode cL_stairs 197 = .ok (.iadd, 1) := by decide +kernel
theorem dL_stairs_198 : decode cL_stairs 198 = .ok (.istore 5, 2) := by decide +kernel
theorem dL_stairs_200 : decode cL_stairs 200 = .ok (.iload 6, 2) := by decide +kernel
theorem dL_stairs_202 : decode cL_stairs 202 = .ok (.aload_n 0, 1) := by decide +kernel
theorem dL_stairs_203 : decode cL_stairs 203 = .ok (.iload 8, 2) := by decide +kernel
theorem dL_stairs_205 : decode cL_stairs 205 = .ok (.iconst 2, 1) := by decide +kernel
theorem dL_stairs_206 : decode cL_stairs 206 = .ok (.invokevirtual 26, 3) := by decide +kernel
theorem dL_stairs_209 : decode cL_stairs 209 = .ok (.ifCond .ne 7, 3) := by decide +kernel
theorem dL_stairs_212 : decode cL_stairs 212 = .ok (.iconst 1, 1) := by decide +kernel
theorem dL_stairs_213 : decode cL_stairs 213 = .ok (.goto 4, 3) := by decide +kernel
theorem dL_stairs_216 : decode cL_stairs 216 = .ok (.iconst 0, 1) := by decide +kernel
theorem dL_stairs_217 : decode cL_stairs 217 = .ok (.iadd, 1) := by decide +kernel
theorem dL_stairs_218 : decode cL_stairs 218 = .ok (.istore 6, 2) := by decide +kernel
theorem dL_stairs_220 : decode cL_stairs 220 = .ok (.iinc 8 1, 3) := by decide +kernel
theorem dL_stairs_223 : decode cL_stairs 223 = .ok (.goto (-202), 3) := by decide +kernel
theorem dL_stairs_226 : decode cL_stairs 226 = .ok (.iconst 0, 1) := by decide +kernel
theorem dL_stairs_227 : decode cL_stairs 227 = .ok (.istore 8, 2) := by decide +kernel
theorem dL_stairs_229 : decode cL_stairs 229 = .ok (.iload 8, 2) := by decide +kernel
theorem dL_stairs_231 : decode cL_stairs 231 = .ok (.aload_n 0, 1) := by decide +kernel
theorem dL_stairs_232 : decode cL_stairs 232 = .ok (.iconst 1, 1) := by decide +kernel
theorem dL_stairs_233 : decode cL_stairs 233 = .ok (.invokevirtual 29, 3) := by decide +kernel
theorem dL_stairs_236 : decode cL_stairs 236 = .ok (.if_icmp .ge 127, 3) := by decide +kernel
theorem dL_stairs_239 : decode cL_stairs 239 = .ok (.iload 7, 2) := by decide +kernel
theorem dL_stairs_241 : decode cL_stairs 241 = .ok (.ifCond .eq 122, 3) := by decide +kernel
theorem dL_stairs_244 : decode cL_stairs 244 = .ok (.aload_n 0, 1) := by decide +kernel
theorem dL_stairs_245 : decode cL_stairs 245 = .ok (.iload 8, 2) := by decide +kernel
theorem dL_stairs_247 : decode cL_stairs 247 = .ok (.iconst 0, 1) := by decide +kernel
theorem dL_stairs_248 : decode cL_stairs 248 = .ok (.invokevirtual 36, 3) := by decide +kernel
theorem dL_stairs_251 : decode cL_stairs 251 = .ok (.aload_n 0, 1) := by decide +kernel
theorem dL_stairs_252 : decode cL_stairs 252 = .ok (.iconst 2, 1) := by decide +kernel
theorem dL_stairs_253 : decode cL_stairs 253 = .ok (.invokevirtual 29, 3) := by decide +kernel
theorem dL_stairs_256 : decode cL_stairs 256 = .ok (.if_icmp .ge 98, 3) := by decide +kernel
theorem dL_stairs_259 : decode cL_stairs 259 = .ok (.iload 8, 2) := by decide +kernel
theorem dL_stairs_261 : decode cL_stairs 261 = .ok (.ifCond .eq 22, 3) := by decide +kernel
theorem dL_stairs_264 : decode cL_stairs 264 = .ok (.aload_n 0, 1) := by decide +kernel
theorem dL_stairs_265 : decode cL_stairs 265 = .ok (.iload 8, 2) := by decide +kernel
theorem dL_stairs_267 : decode cL_stairs 267 = .ok (.iconst 1, 1) := by decide +kernel
theorem dL_stairs_268 : decode cL_stairs 268 = .ok (.isub, 1) := by decide +kernel
theorem dL_stairs_269 : decode cL_stairs 269 = .ok (.iconst 0, 1) := by decide +kernel
theorem dL_stairs_270 : decode cL_stairs 270 = .ok (.invokevirtual 36, 3) := by decide +kernel
theorem dL_stairs_273 : decode cL_stairs 273 = .ok (.aload_n 0, 1) := by decide +kernel
theorem dL_stairs_274 : decode cL_stairs 274 = .ok (.iload 8, 2) := by decide +kernel
theorem dL_stairs_276 : decode cL_stairs 276 = .ok (.iconst 0, 1) := by decide +kernel
theorem dL_stairs_277 : decode cL_stairs 277 = .ok (.invokevirtual 36, 3) := by decide +kernel
theorem dL_stairs_280 : decode cL_stairs 280 = .ok (.if_icmp .ge 74, 3) := by decide +kernel
theorem dL_stairs_283 : decode cL_stairs 283 = .ok (.aload_n 0, 1) := by decide +kernel
theorem dL_stairs_284 : decode cL_stairs 284 = .ok (.iload 8, 2) := by decide +kernel
theorem dL_stairs_286 : decode cL_stairs 286 = .ok (.iconst 3, 1) := by decide +kernel
theorem dL_stairs_287 : decode cL_stairs 287 = .ok (.invokevirtual 36, 3) := by decide +kernel
theorem dL_stairs_290 : decode cL_stairs 290 = .ok (.ifCond .ne 7, 3) := by decide +kernel
theorem dL_stairs_293 : decode cL_stairs 293 = .ok (.iconst 1, 1) := by decide +kernel
theorem dL_stairs_294 : decode cL_stairs 294 = .ok (.goto 4, 3) := by decide +kernel
theorem dL_stairs_297 : decode cL_stairs 297 = .ok (.iconst 0, 1) := by decide +kernel
theorem dL_stairs_298 : decode cL_stairs 298 = .ok (.aload_n 0, 1) := by decide +kernel
theorem dL_stairs_299 : decode cL_stairs 299 = .ok (.iload 8, 2) := by decide +kernel
theorem dL_stairs_301 : decode cL_stairs 301 = .ok (.iconst 1, 1) := by decide +kernel
theorem dL_stairs_302 : decode cL_stairs 302 = .ok (.invokevirtual 36, 3) := by decide +kernel
theorem dL_stairs_305 : decode cL_stairs 305 = .ok (.aload_n 0, 1) := by decide +kernel
theorem dL_stairs_306 : decode cL_stairs 306 = .ok (.iload 8, 2) := by decide +kernel
theorem dL_stairs_308 : decode cL_stairs 308 = .ok (.iconst 2, 1) := by decide +kernel
theorem dL_stairs_309 : decode cL_stairs 309 = .ok (.invokevirtual 36, 3) := by decide +kernel
theorem dL_stairs_312 : decode cL_stairs 312 = .ok (.if_icmp .ne 7, 3) := by decide +kernel
theorem dL_stairs_315 : decode cL_stairs 315 = .ok (.iconst 1, 1) := by decide +kernel
theorem dL_stairs_316 : decode cL_stairs 316 = .ok (.goto 4, 3) := by decide +kernel
theorem dL_stairs_319 : decode cL_stairs 319 = .ok (.iconst 0, 1) := by decide +kernel
theorem dL_stairs_320 : decode cL_stairs 320 = .ok (.if_icmp .ne 34, 3) := by decide +kernel
theorem dL_stairs_323 : decode cL_stairs 323 = .ok (.aload_n 0, 1) := by decide +kernel
theorem dL_stairs_324 : decode cL_stairs 324 = .ok (.iload 8, 2) := by decide +kernel
theorem dL_stairs_326 : decode cL_stairs 326 = .ok (.iconst 3, 1) := by decide +kernel
theorem dL_stairs_327 : decode cL_stairs 327 = .ok (.invokevirtual 36, 3) := by decide +kernel
theorem dL_stairs_330 : decode cL_stairs 330 = .ok (.bipush 60, 2) := by decide +kernel
theorem dL_stairs_332 : decode cL_stairs 332 = .ok (.if_icmp .gt 22, 3) := by decide +kernel
theorem dL_stairs_335 : decode cL_stairs 335 = .ok (.aload_n 0, 1) := by decide +kernel
theorem dL_stairs_336 : decode cL_stairs 336 = .ok (.aload_n 0, 1) := by decide +kernel
theorem dL_stairs_337 : decode cL_stairs 337 = .ok (.iload 8, 2) := by decide +kernel
theorem dL_stairs_339 : decode cL_stairs 339 = .ok (.iconst 1, 1) := by decide +kernel
theorem dL_stairs_340 : decode cL_stairs 340 = .ok (.invokevirtual 36, 3) := by decide +kernel
theorem dL_stairs_343 : decode cL_stairs 343 = .ok (.iconst 3, 1) := by decide +kernel
theorem dL_stairs_344 : decode cL_stairs 344 = .ok (.invokevirtual 26, 3) := by decide +kernel
theorem dL_stairs_347 : decode cL_stairs 347 = .ok (.ifCond .le 7, 3) := by decide +kernel
theorem dL_stairs_350 : decode cL_stairs 350 = .ok (.iconst 1, 1) := by decide +kernel
theorem dL_stairs_351 : decode cL_stairs 351 = .ok (.goto 4, 3) := by decide +kernel
theorem dL_stairs_354 : decode cL_stairs 354 = .ok (.iconst 0, 1) := by decide +kernel
theorem dL_stairs_355 : decode cL_stairs 355 = .ok (.istore 7, 2) := by decide +kernel
theorem dL_stairs_357 : decode cL_stairs 357 = .ok (.iinc 8 1, 3) := by decide +kernel
theorem dL_stairs_360 : decode cL_stairs 360 = .ok (.goto (-131), 3) := by decide +kernel
theorem dL_stairs_363 : decode cL_stairs 363 = .ok (.aload_n 0, 1) := by decide +kernel
theorem dL_stairs_364 : decode cL_stairs 364 = .ok (.invokevirtual 39, 3) := by decide +kernel
theorem dL_stairs_367 : decode cL_stairs 367 = .ok (.istore 8, 2) := by decide +kernel
theorem dL_stairs_369 : decode cL_stairs 369 = .ok (.iload 7, 2) := by decide +kernel
theorem dL_stairs_371 : decode cL_stairs 371 = .ok (.ifCond .eq 140, 3) := by decide +kernel
theorem dL_stairs_374 : decode cL_stairs 374 = .ok (.iload_n 1, 1) := by decide +kernel
theorem dL_stairs_375 : decode cL_stairs 375 = .ok (.aload_n 0, 1) := by decide +kernel
theorem dL_stairs_376 : decode cL_stairs 376 = .ok (.iconst 1, 1) := by decide +kernel
theorem dL_stairs_377 : decode cL_stairs 377 = .ok (.invokevirtual 29, 3) := by decide +kernel
theorem dL_stairs_380 : decode cL_stairs 380 = .ok (.if_icmp .ne 131, 3) := by decide +kernel
theorem dL_stairs_383 : decode cL_stairs 383 = .ok (.iload_n 1, 1) := by decide +kernel
theorem dL_stairs_384 : decode cL_stairs 384 = .ok (.bipush 6, 2) := by decide +kernel
theorem dL_stairs_386 : decode cL_stairs 386 = .ok (.if_icmp .gt 125, 3) := by decide +kernel
theorem dL_stairs_389 : decode cL_stairs 389 = .ok (.iload_n 2, 1) := by decide +kernel
theorem dL_stairs_390 : decode cL_stairs 390 = .ok (.aload_n 0, 1) := by decide +kernel
theorem dL_stairs_391 : decode cL_stairs 391 = .ok (.iconst 3, 1) := by decide +kernel
theorem dL_stairs_392 : decode cL_stairs 392 = .ok (.invokevirtual 29, 3) := by decide +kernel
theorem dL_stairs_395 : decode cL_stairs 395 = .ok (.if_icmp .ne 116, 3) := by decide +kernel
theorem dL_stairs_398 : decode cL_stairs 398 = .ok (.iload_n 3, 1) := by decide +kernel
theorem dL_stairs_399 : decode cL_stairs 399 = .ok (.aload_n 0, 1) := by decide +kernel
theorem dL_stairs_400 : decode cL_stairs 400 = .ok (.iconst 4, 1) := by decide +kernel
theorem dL_stairs_401 : decode cL_stairs 401 = .ok (.invokevirtual 29, 3) := by decide +kernel
theorem dL_stairs_404 : decode cL_stairs 404 = .ok (.if_icmp .ne 107, 3) := by decide +kernel
theorem dL_stairs_407 : decode cL_stairs 407 = .ok (.iload 4, 2) := by decide +kernel
theorem dL_stairs_409 : decode cL_stairs 409 = .ok (.aload_n 0, 1) := by decide +kernel
theorem dL_stairs_410 : decode cL_stairs 410 = .ok (.iconst 5, 1) := by decide +kernel
theorem dL_stairs_411 : decode cL_stairs 411 = .ok (.invokevirtual 29, 3) := by decide +kernel
theorem dL_stairs_414 : decode cL_stairs 414 = .ok (.if_icmp .ne 97, 3) := by decide +kernel
theorem dL_stairs_417 : decode cL_stairs 417 = .ok (.iload 5, 2) := by decide +kernel
theorem dL_stairs_419 : decode cL_stairs 419 = .ok (.aload_n 0, 1) := by decide +kernel
theorem dL_stairs_420 : decode cL_stairs 420 = .ok (.bipush 6, 2) := by decide +kernel
theorem dL_stairs_422 : decode cL_stairs 422 = .ok (.invokevirtual 29, 3) := by decide +kernel
theorem dL_stairs_425 : decode cL_stairs 425 = .ok (.if_icmp .ne 86, 3) := by decide +kernel
theorem dL_stairs_428 : decode cL_stairs 428 = .ok (.iload 6, 2) := by decide +kernel
theorem dL_stairs_430 : decode cL_stairs 430 = .ok (.aload_n 0, 1) := by decide +kernel
theorem dL_stairs_431 : decode cL_stairs 431 = .ok (.bipush 9, 2) := by decide +kernel
theorem dL_stairs_433 : decode cL_stairs 433 = .ok (.invokevirtual 29, 3) := by decide +kernel
theorem dL_stairs_436 : decode cL_stairs 436 = .ok (.if_icmp .ne 75, 3) := by decide +kernel
theorem dL_stairs_439 : decode cL_stairs 439 = .ok (.iload 8, 2) := by decide +kernel
theorem dL_stairs_441 : decode cL_stairs 441 = .ok (.iconst (-1), 1) := by decide +kernel
theorem dL_stairs_442 : decode cL_stairs 442 = .ok (.if_icmp .ne 7, 3) := by decide +kernel
theorem dL_stairs_445 : decode cL_stairs 445 = .ok (.iconst 1, 1) := by decide +kernel
theorem dL_stairs_446 : decode cL_stairs 446 = .ok (.goto 4, 3) := by decide +kernel
theorem dL_stairs_449 : decode cL_stairs 449 = .ok (.iconst 0, 1) := by decide +kernel
theorem dL_stairs_450 : decode cL_stairs 450 = .ok (.iload 6, 2) := by decide +kernel
theorem dL_stairs_452 : decode cL_stairs 452 = .ok (.ifCond .ne 7, 3) := by decide +kernel
theorem dL_stairs_455 : decode cL_stairs 455 = .ok (.iconst 1, 1) := by decide +kernel
theorem dL_stairs_456 : decode cL_stairs 456 = .ok (.goto 4, 3) := by decide +kernel
theorem dL_stairs_459 : decode cL_stairs 459 = .ok (.iconst 0, 1) := by decide +kernel
theorem dL_stairs_460 : decode cL_stairs 460 = .ok (.if_icmp .ne 51, 3) := by decide +kernel
theorem dL_stairs_463 : decode cL_stairs 463 = .ok (.iload 8, 2) := by decide +kernel
theorem dL_stairs_465 : decode cL_stairs 465 = .ok (.iconst (-1), 1) := by decide +kernel
theorem dL_stairs_466 : decode cL_stairs 466 = .ok (.if_icmp .eq 13, 3) := by decide +kernel
theorem dL_stairs_469 : decode cL_stairs 469 = .ok (.aload_n 0, 1) := by decide +kernel
theorem dL_stairs_470 : decode cL_stairs 470 = .ok (.iload 8, 2) := by decide +kernel
theorem dL_stairs_472 : decode cL_stairs 472 = .ok (.iconst 2, 1) := by decide +kernel
theorem dL_stairs_473 : decode cL_stairs 473 = .ok (.invokevirtual 26, 3) := by decide +kernel
theorem dL_stairs_476 : decode cL_stairs 476 = .ok (.ifCond .ne 35, 3) := by decide +kernel
theorem dL_stairs_479 : decode cL_stairs 479 = .ok (.aload_n 0, 1) := by decide +kernel
theorem dL_stairs_480 : decode cL_stairs 480 = .ok (.iload_n 1, 1) := by decide +kernel
theorem dL_stairs_481 : decode cL_stairs 481 = .ok (.iconst 0, 1) := by decide +kernel
theorem dL_stairs_482 : decode cL_stairs 482 = .ok (.invokevirtual 36, 3) := by decide +kernel
theorem dL_stairs_485 : decode cL_stairs 485 = .ok (.iconst (-1), 1) := by decide +kernel
theorem dL_stairs_486 : decode cL_stairs 486 = .ok (.if_icmp .ne 25, 3) := by decide +kernel
theorem dL_stairs_489 : decode cL_stairs 489 = .ok (.aload_n 0, 1) := by decide +kernel
theorem dL_stairs_490 : decode cL_stairs 490 = .ok (.invokevirtual 42, 3) := by decide +kernel
theorem dL_stairs_493 : decode cL_stairs 493 = .ok (.dconst 0, 1) := by decide +kernel
theorem dL_stairs_494 : decode cL_stairs 494 = .ok (.dcmp .l, 1) := by decide +kernel
theorem dL_stairs_495 : decode cL_stairs 495 = .ok (.ifCond .lt 16, 3) := by decide +kernel
theorem dL_stairs_498 : decode cL_stairs 498 = .ok (.aload_n 0, 1) := by decide +kernel
theorem dL_stairs_499 : decode cL_stairs 499 = .ok (.invokevirtual 42, 3) := by decide +kernel
theorem dL_stairs_502 : decode cL_stairs 502 = .ok (.dconst 1, 1) := by decide +kernel
theorem dL_stairs_503 : decode cL_stairs 503 = .ok (.dcmp .g, 1) := by decide +kernel
theorem dL_stairs_504 : decode cL_stairs 504 = .ok (.ifCond .gt 7, 3) := by decide +kernel
theorem dL_stairs_507 : decode cL_stairs 507 = .ok (.iconst 1, 1) := by decide +kernel
theorem dL_stairs_508 : decode cL_stairs 508 = .ok (.goto 4, 3) := by decide +kernel
theorem dL_stairs_511 : decode cL_stairs 511 = .ok (.iconst 0, 1) := by decide +kernel
theorem dL_stairs_512 : decode cL_stairs 512 = .ok (.ireturn, 1) := by decide +kernel
theorem dL_act_0 : decode cL_act 0 = .ok (.aload_n 1, 1) := by decide +kernel
theorem dL_act_1 : decode cL_act 1 = .ok (.iload_n 2, 1) := by decide +kernel
theorem dL_act_2 : decode cL_act 2 = .ok (.iconst 1, 1) := by decide +kernel
theorem dL_act_3 : decode cL_act 3 = .ok (.iadd, 1) := by decide +kernel
theorem dL_act_4 : decode cL_act 4 = .ok (.invokestatic 46, 3) := by decide +kernel
theorem dL_act_7 : decode cL_act 7 = .ok (.istore_n 3, 1) := by decide +kernel
theorem dL_act_8 : decode cL_act 8 = .ok (.aload_n 1, 1) := by decide +kernel
theorem dL_act_9 : decode cL_act 9 = .ok (.iload_n 2, 1) := by decide +kernel
theorem dL_act_10 : decode cL_act 10 = .ok (.iconst 2, 1) := by decide +kernel
theorem dL_act_11 : decode cL_act 11 = .ok (.iadd, 1) := by decide +kernel
theorem dL_act_12 : decode cL_act 12 = .ok (.invokestatic 46, 3) := by decide +kernel
theorem dL_act_15 : decode cL_act 15 = .ok (.istore 4, 2) := by decide +kernel
theorem dL_act_17 : decode cL_act 17 = .ok (.iload_n 3, 1) := by decide +kernel
theorem dL_act_18 : decode cL_act 18 = .ok (.bipush 8, 2) := by decide +kernel
theorem dL_act_20 : decode cL_act 20 = .ok (.invokestatic 52, 3) := by decide +kernel
theorem dL_act_23 : decode cL_act 23 = .ok (.istore 5, 2) := by decide +kernel
theorem dL_act_25 : decode cL_act 25 = .ok (.aload_n 1, 1) := by decide +kernel
theorem dL_act_26 : decode cL_act 26 = .ok (.iload_n 2, 1) := by decide +kernel
theorem dL_act_27 : decode cL_act 27 = .ok (.invokestatic 46, 3) := by decide +kernel
theorem dL_act_30 : decode cL_act 30 = .ok (.bipush 20, 2) := by decide +kernel
theorem dL_act_32 : decode cL_act 32 = .ok (.invokestatic 52, 3) := by decide +kernel
theorem dL_act_35 : decode cL_act 35 = .ok (.tableswitch 264 0 18 #[89, 89, 89, 89, 89, 111, 111, 111, 111, 111, 124, 142, 142, 149, 149, 170, 189, 208, 227], 89) := by decide +kernel
theorem dL_act_124 : decode cL_act 124 = .ok (.aload_n 0, 1) := by decide +kernel
theorem dL_act_125 : decode cL_act 125 = .ok (.iload 5, 2) := by decide +kernel
theorem dL_act_127 : decode cL_act 127 = .ok (.iload 5, 2) := by decide +kernel
theorem dL_act_129 : decode cL_act 129 = .ok (.iconst 1, 1) := by decide +kernel
theorem dL_act_130 : decode cL_act 130 = .ok (.iadd, 1) := by decide +kernel
theorem dL_act_131 : decode cL_act 131 = .ok (.iload 4, 2) := by decide +kernel
theorem dL_act_133 : decode cL_act 133 = .ok (.bipush 7, 2) := by decide +kernel
theorem dL_act_135 : decode cL_act 135 = .ok (.invokestatic 52, 3) := by decide +kernel
theorem dL_act_138 : decode cL_act 138 = .ok (.iadd, 1) := by decide +kernel
theorem dL_act_139 : decode cL_act 139 = .ok (.bipush 8, 2) := by decide +kernel
theorem dL_act_141 : decode cL_act 141 = .ok (.irem, 1) := by decide +kernel
theorem dL_act_142 : decode cL_act 142 = .ok (.invokestatic 55, 3) := by decide +kernel
theorem dL_act_145 : decode cL_act 145 = .ok (.ireturn, 1) := by decide +kernel
theorem dL_act_146 : decode cL_act 146 = .ok (.aload_n 0, 1) := by decide +kernel
theorem dL_act_147 : decode cL_act 147 = .ok (.iconst 1, 1) := by decide +kernel
theorem dL_act_148 : decode cL_act 148 = .ok (.iload_n 3, 1) := by decide +kernel
theorem dL_act_149 : decode cL_act 149 = .ok (.bipush 20, 2) := by decide +kernel
theorem dL_act_151 : decode cL_act 151 = .ok (.invokestatic 52, 3) := by decide +kernel
theorem dL_act_154 : decode cL_act 154 = .ok (.iadd, 1) := by decide +kernel
theorem dL_act_155 : decode cL_act 155 = .ok (.invokevirtual 58, 3) := by decide +kernel
theorem dL_act_158 : decode cL_act 158 = .ok (.ireturn, 1) := by decide +kernel
theorem dL_act_159 : decode cL_act 159 = .ok (.aload_n 0, 1) := by decide +kernel
theorem dL_act_160 : decode cL_act 160 = .ok (.iload_n 3, 1) := by decide +kernel
theorem dL_act_161 : decode cL_act 161 = .ok (.bipush 12, 2) := by decide +kernel
theorem dL_act_163 : decode cL_act 163 = .ok (.invokestatic 52, 3) := by decide +kernel
theorem dL_act_166 : decode cL_act 166 = .ok (.iload 4, 2) := by decide +kernel
theorem dL_act_168 : decode cL_act 168 = .ok (.bipush 8, 2) := by decide +kernel
theorem dL_act_170 : decode cL_act 170 = .ok (.invokestatic 52, 3) := by decide +kernel
theorem dL_act_173 : decode cL_act 173 = .ok (.invokestatic 61, 3) := by decide +kernel
theorem dL_act_176 : decode cL_act 176 = .ok (.ireturn, 1) := by decide +kernel
theorem dL_act_177 : decode cL_act 177 = .ok (.aload_n 0, 1) := by decide +kernel
theorem dL_act_178 : decode cL_act 178 = .ok (.iload 5, 2) := by decide +kernel
theorem dL_act_180 : decode cL_act 180 = .ok (.invokevirtual 63, 3) := by decide +kernel
theorem dL_act_183 : decode cL_act 183 = .ok (.ireturn, 1) := by decide +kernel
theorem dL_act_184 : decode cL_act 184 = .ok (.aload_n 0, 1) := by decide +kernel
theorem dL_act_185 : decode cL_act 185 = .ok (.iload 5, 2) := by decide +kernel
theorem dL_act_187 : decode cL_act 187 = .ok (.iload 4, 2) := by decide +kernel
theorem dL_act_189 : decode cL_act 189 = .ok (.iconst 3, 1) := by decide +kernel
theorem dL_act_190 : decode cL_act 190 = .ok (.invokestatic 52, 3) := by decide +kernel
theorem dL_act_193 : decode cL_act 193 = .ok (.ifCond .le 7, 3) := by decide +kernel
theorem dL_act_196 : decode cL_act 196 = .ok (.iconst 1, 1) := by decide +kernel
theorem dL_act_197 : decode cL_act 197 = .ok (.goto 4, 3) := by decide +kernel
theorem dL_act_200 : decode cL_act 200 = .ok (.iconst 0, 1) := by decide +kernel
theorem dL_act_201 : decode cL_act 201 = .ok (.invokevirtual 66, 3) := by decide +kernel
theorem dL_act_204 : decode cL_act 204 = .ok (.ireturn, 1) := by decide +kernel
theorem dL_act_205 : decode cL_act 205 = .ok (.aload_n 0, 1) := by decide +kernel
theorem dL_act_206 : decode cL_act 206 = .ok (.iload 4, 2) := by decide +kernel
theorem dL_act_208 : decode cL_act 208 = .ok (.iconst 2, 1) := by decide +kernel
theorem dL_act_209 : decode cL_act 209 = .ok (.invokestatic 52, 3) := by decide +kernel
theorem dL_act_212 : decode cL_act 212 = .ok (.ifCond .ne 7, 3) := by decide +kernel
theorem dL_act_215 : decode cL_act 215 = .ok (.iconst 1, 1) := by decide +kernel
theorem dL_act_216 : decode cL_act 216 = .ok (.goto 4, 3) := by decide +kernel
theorem dL_act_219 : decode cL_act 219 = .ok (.iconst 0, 1) := by decide +kernel
theorem dL_act_220 : decode cL_act 220 = .ok (.invokevirtual 70, 3) := by decide +kernel
theorem dL_act_223 : decode cL_act 223 = .ok (.ireturn, 1) := by decide +kernel
theorem dL_act_224 : decode cL_act 224 = .ok (.aload_n 0, 1) := by decide +kernel
theorem dL_act_225 : decode cL_act 225 = .ok (.iload 4, 2) := by decide +kernel
theorem dL_act_227 : decode cL_act 227 = .ok (.iconst 3, 1) := by decide +kernel
theorem dL_act_228 : decode cL_act 228 = .ok (.invokestatic 52, 3) := by decide +kernel
theorem dL_act_231 : decode cL_act 231 = .ok (.ifCond .ne 7, 3) := by decide +kernel
theorem dL_act_234 : decode cL_act 234 = .ok (.iconst 1, 1) := by decide +kernel
theorem dL_act_235 : decode cL_act 235 = .ok (.goto 4, 3) := by decide +kernel
theorem dL_act_238 : decode cL_act 238 = .ok (.iconst 0, 1) := by decide +kernel
theorem dL_act_239 : decode cL_act 239 = .ok (.invokevirtual 74, 3) := by decide +kernel
theorem dL_act_242 : decode cL_act 242 = .ok (.ireturn, 1) := by decide +kernel
theorem dL_act_243 : decode cL_act 243 = .ok (.aload_n 0, 1) := by decide +kernel
theorem dL_act_244 : decode cL_act 244 = .ok (.iload_n 3, 1) := by decide +kernel
theorem dL_act_245 : decode cL_act 245 = .ok (.iconst 2, 1) := by decide +kernel
theorem dL_act_246 : decode cL_act 246 = .ok (.invokestatic 52, 3) := by decide +kernel
theorem dL_act_249 : decode cL_act 249 = .ok (.iconst 1, 1) := by decide +kernel
theorem dL_act_250 : decode cL_act 250 = .ok (.iload 4, 2) := by decide +kernel
theorem dL_act_252 : decode cL_act 252 = .ok (.bipush 40, 2) := by decide +kernel
theorem dL_act_254 : decode cL_act 254 = .ok (.invokestatic 52, 3) := by decide +kernel
theorem dL_act_257 : decode cL_act 257 = .ok (.iadd, 1) := by decide +kernel
theorem dL_act_258 : decode cL_act 258 = .ok (.invokevirtual 77, 3) := by decide +kernel
theorem dL_act_261 : decode cL_act 261 = .ok (.ireturn, 1) := by decide +kernel
theorem dL_act_262 : decode cL_act 262 = .ok (.iload_n 3, 1) := by decide +kernel
theorem dL_act_263 : decode cL_act 263 = .ok (.iconst 2, 1) := by decide +kernel
theorem dL_act_264 : decode cL_act 264 = .ok (.invokestatic 52, 3) := by decide +kernel
theorem dL_act_267 : decode cL_act 267 = .ok (.ifCond .ne 17, 3) := by decide +kernel
theorem dL_act_270 : decode cL_act 270 = .ok (.aload_n 0, 1) := by decide +kernel
theorem dL_act_271 : decode cL_act 271 = .ok (.iconst 2, 1) := by decide +kernel
theorem dL_act_272 : decode cL_act 272 = .ok (.iload 4, 2) := by decide +kernel
theorem dL_act_274 : decode cL_act 274 = .ok (.iconst 2, 1) := by decide +kernel
theorem dL_act_275 : decode cL_act 275 = .ok (.invokestatic 52, 3) := by decide +kernel
theorem dL_act_278 : decode cL_act 278 = .ok (.invokevirtual 77, 3) := by decide +kernel
theorem dL_act_281 : decode cL_act 281 = .ok (.goto 17, 3) := by decide +kernel
theorem dL_act_284 : decode cL_act 284 = .ok (.aload_n 0, 1) := by decide +kernel
theorem dL_act_285 : decode cL_act 285 = .ok (.iconst 3, 1) := by decide +kernel
theorem dL_act_286 : decode cL_act 286 = .ok (.iconst 1, 1) := by decide +kernel
theorem dL_act_287 : decode cL_act 287 = .ok (.iload 4, 2) := by decide +kernel
theorem dL_act_289 : decode cL_act 289 = .ok (.bipush 12, 2) := by decide +kernel
theorem dL_act_291 : decode cL_act 291 = .ok (.invokestatic 52, 3) := by decide +kernel
theorem dL_act_294 : decode cL_act 294 = .ok (.iadd, 1) := by decide +kernel
theorem dL_act_295 : decode cL_act 295 = .ok (.invokevirtual 77, 3) := by decide +kernel
theorem dL_act_298 : decode cL_act 298 = .ok (.ireturn, 1) := by decide +kernel
theorem dL_act_299 : decode cL_act 299 = .ok (.aload_n 0, 1) := by decide +kernel
theorem dL_act_300 : decode cL_act 300 = .ok (.invokestatic 80, 3) := by decide +kernel
theorem dL_act_303 : decode cL_act 303 = .ok (.ireturn, 1) := by decide +kernel
theorem dL_law_0 : decode cL_law 0 = .ok (.new 10, 3) := by decide +kernel
theorem dL_law_3 : decode cL_law 3 = .ok (.dup, 1) := by decide +kernel
theorem dL_law_4 : decode cL_law 4 = .ok (.invokespecial 83, 3) := by decide +kernel
theorem dL_law_7 : decode cL_law 7 = .ok (.astore_n 1, 1) := by decide +kernel
theorem dL_law_8 : decode cL_law 8 = .ok (.iconst 1, 1) := by decide +kernel
theorem dL_law_9 : decode cL_law 9 = .ok (.istore_n 2, 1) := by decide +kernel
theorem dL_law_10 : decode cL_law 10 = .ok (.aload_n 0, 1) := by decide +kernel
theorem dL_law_11 : decode cL_law 11 = .ok (.arraylength, 1) := by decide +kernel
theorem dL_law_12 : decode cL_law 12 = .ok (.iconst 3, 1) := by decide +kernel
theorem dL_law_13 : decode cL_law 13 = .ok (.idiv, 1) := by decide +kernel
theorem dL_law_14 : decode cL_law 14 = .ok (.bipush 44, 2) := by decide +kernel
theorem dL_law_16 : decode cL_law 16 = .ok (.if_icmp .le 8, 3) := by decide +kernel
theorem dL_law_19 : decode cL_law 19 = .ok (.bipush 44, 2) := by decide +kernel
theorem dL_law_21 : decode cL_law 21 = .ok (.goto 7, 3) := by decide +kernel
theorem dL_law_24 : decode cL_law 24 = .ok (.aload_n 0, 1) := by decide +kernel
theorem dL_law_25 : decode cL_law 25 = .ok (.arraylength, 1) := by decide +kernel
theorem dL_law_26 : decode cL_law 26 = .ok (.iconst 3, 1) := by decide +kernel
theorem dL_law_27 : decode cL_law 27 = .ok (.idiv, 1) := by decide +kernel
theorem dL_law_28 : decode cL_law 28 = .ok (.istore_n 3, 1) := by decide +kernel
theorem dL_law_29 : decode cL_law 29 = .ok (.iconst 0, 1) := by decide +kernel
theorem dL_law_30 : decode cL_law 30 = .ok (.istore 4, 2) := by decide +kernel
theorem dL_law_32 : decode cL_law 32 = .ok (.iload 4, 2) := by decide +kernel
theorem dL_law_34 : decode cL_law 34 = .ok (.iload_n 3, 1) := by decide +kernel
theorem dL_law_35 : decode cL_law 35 = .ok (.if_icmp .ge 378, 3) := by decide +kernel
theorem dL_law_38 : decode cL_law 38 = .ok (.iload_n 2, 1) := by decide +kernel
theorem dL_law_39 : decode cL_law 39 = .ok (.ifCond .eq 374, 3) := by decide +kernel
theorem dL_law_42 : decode cL_law 42 = .ok (.aload_n 1, 1) := by decide +kernel
theorem dL_law_43 : decode cL_law 43 = .ok (.bipush 10, 2) := by decide +kernel
theorem dL_law_45 : decode cL_law 45 = .ok (.invokevirtual 29, 3) := by decide +kernel
theorem dL_law_48 : decode cL_law 48 = .ok (.istore 5, 2) := by decide +kernel
theorem dL_law_50 : decode cL_law 50 = .ok (.aload_n 1, 1) := by decide +kernel
theorem dL_law_51 : decode cL_law 51 = .ok (.iconst 1, 1) := by decide +kernel
theorem dL_law_52 : decode cL_law 52 = .ok (.invokevirtual 29, 3) := by decide +kernel
theorem dL_law_55 : decode cL_law 55 = .ok (.istore 6, 2) := by decide +kernel
theorem dL_law_57 : decode cL_law 57 = .ok (.aload_n 1, 1) := by decide +kernel
theorem dL_law_58 : decode cL_law 58 = .ok (.iconst 0, 1) := by decide +kernel
theorem dL_law_59 : decode cL_law 59 = .ok (.invokevirtual 29, 3) := by decide +kernel
theorem dL_law_62 : decode cL_law 62 = .ok (.istore 7, 2) := by decide +kernel
theorem dL_law_64 : decode cL_law 64 = .ok (.aload_n 1, 1) := by decide +kernel
theorem dL_law_65 : decode cL_law 65 = .ok (.iconst 4, 1) := by decide +kernel
theorem dL_law_66 : decode cL_law 66 = .ok (.invokevirtual 29, 3) := by decide +kernel
theorem dL_law_69 : decode cL_law 69 = .ok (.istore 8, 2) := by decide +kernel
theorem dL_law_71 : decode cL_law 71 = .ok (.aload_n 1, 1) := by decide +kernel
theorem dL_law_72 : decode cL_law 72 = .ok (.iconst 5, 1) := by decide +kernel
theorem dL_law_73 : decode cL_law 73 = .ok (.invokevirtual 29, 3) := by decide +kernel
theorem dL_law_76 : decode cL_law 76 = .ok (.istore 9, 2) := by decide +kernel
theorem dL_law_78 : decode cL_law 78 = .ok (.aload_n 1, 1) := by decide +kernel
theorem dL_law_79 : decode cL_law 79 = .ok (.bipush 6, 2) := by decide +kernel
theorem dL_law_81 : decode cL_law 81 = .ok (.invokevirtual 29, 3) := by decide +kernel
theorem dL_law_84 : decode cL_law 84 = .ok (.istore 10, 2) := by decide +kernel
theorem dL_law_86 : decode cL_law 86 = .ok (.aload_n 1, 1) := by decide +kernel
theorem dL_law_87 : decode cL_law 87 = .ok (.iconst 2, 1) := by decide +kernel
theorem dL_law_88 : decode cL_law 88 = .ok (.invokevirtual 29, 3) := by decide +kernel
theorem dL_law_91 : decode cL_law 91 = .ok (.istore 11, 2) := by decide +kernel
theorem dL_law_93 : decode cL_law 93 = .ok (.aload_n 1, 1) := by decide +kernel
theorem dL_law_94 : decode cL_law 94 = .ok (.bipush 9, 2) := by decide +kernel
theorem dL_law_96 : decode cL_law 96 = .ok (.invokevirtual 29, 3) := by decide +kernel
theorem dL_law_99 : decode cL_law 99 = .ok (.ifCond .ne 7, 3) := by decide +kernel
theorem dL_law_102 : decode cL_law 102 = .ok (.iconst 1, 1) := by decide +kernel
theorem dL_law_103 : decode cL_law 103 = .ok (.goto 4, 3) := by decide +kernel
theorem dL_law_106 : decode cL_law 106 = .ok (.iconst 0, 1) := by decide +kernel
theorem dL_law_107 : decode cL_law 107 = .ok (.istore 12, 2) := by decide +kernel
theorem dL_law_109 : decode cL_law 109 = .ok (.aload_n 0, 1) := by decide +kernel
theorem dL_law_110 : decode cL_law 110 = .ok (.iconst 3, 1) := by decide +kernel
theorem dL_law_111 : decode cL_law 111 = .ok (.iload 4, 2) := by decide +kernel
theorem dL_law_113 : decode cL_law 113 = .ok (.imul, 1) := by decide +kernel
theorem dL_law_114 : decode cL_law 114 = .ok (.invokestatic 46, 3) := by decide +kernel
theorem dL_law_117 : decode cL_law 117 = .ok (.bipush 20, 2) := by decide +kernel
theorem dL_law_119 : decode cL_law 119 = .ok (.invokestatic 52, 3) := by decide +kernel
theorem dL_law_122 : decode cL_law 122 = .ok (.istore 13, 2) := by decide +kernel
theorem dL_law_124 : decode cL_law 124 = .ok (.aload_n 0, 1) := by decide +kernel
theorem dL_law_125 : decode cL_law 125 = .ok (.iconst 3, 1) := by decide +kernel
theorem dL_law_126 : decode cL_law 126 = .ok (.iload 4, 2) := by decide +kernel
theorem dL_law_128 : decode cL_law 128 = .ok (.imul, 1) := by decide +kernel
theorem dL_law_129 : decode cL_law 129 = .ok (.iconst 1, 1) := by decide +kernel
theorem dL_law_130 : decode cL_law 130 = .ok (.iadd, 1) := by decide +kernel
theorem dL_law_131 : decode cL_law 131 = .ok (.invokestatic 46, 3) := by decide +kernel
theorem dL_law_134 : decode cL_law 134 = .ok (.istore 14, 2) := by decide +kernel
theorem dL_law_136 : decode cL_law 136 = .ok (.iconst 1, 1) := by decide +kernel
theorem dL_law_137 : decode cL_law 137 = .ok (.iload 14, 2) := by decide +kernel
theorem dL_law_139 : decode cL_law 139 = .ok (.bipush 20, 2) := by decide +kernel
theorem dL_law_141 : decode cL_law 141 = .ok (.invokestatic 52, 3) := by decide +kernel
theorem dL_law_144 : decode cL_law 144 = .ok (.iadd, 1) := by decide +kernel
theorem dL_law_145 : decode cL_law 145 = .ok (.istore 15, 2) := by decide +kernel
theorem dL_law_147 : decode cL_law 147 = .ok (.aload_n 1, 1) := by decide +kernel
theorem dL_law_148 : decode cL_law 148 = .ok (.iload 15, 2) := by decide +kernel
theorem dL_law_150 : decode cL_law 150 = .ok (.iconst 1, 1) := by decide +kernel
theorem dL_law_151 : decode cL_law 151 = .ok (.invokevirtual 84, 3) := by decide +kernel
theorem dL_law_154 : decode cL_law 154 = .ok (.istore 16, 2) := by decide +kernel
theorem dL_law_156 : decode cL_law 156 = .ok (.aload_n 1, 1) := by decide +kernel
theorem dL_law_157 : decode cL_law 157 = .ok (.iload 15, 2) := by decide +kernel
theorem dL_law_159 : decode cL_law 159 = .ok (.iconst 0, 1) := by decide +kernel
theorem dL_law_160 : decode cL_law 160 = .ok (.invokevirtual 84, 3) := by decide +kernel
theorem dL_law_163 : decode cL_law 163 = .ok (.istore 17, 2) := by decide +kernel
theorem dL_law_165 : decode cL_law 165 = .ok (.aload_n 1, 1) := by decide +kernel
theorem dL_law_166 : decode cL_law 166 = .ok (.aload_n 0, 1) := by decide +kernel
theorem dL_law_167 : decode cL_law 167 = .ok (.iconst 3, 1) := by decide +kernel
theorem dL_law_168 : decode cL_law 168 = .ok (.iload 4, 2) := by decide +kernel
theorem dL_law_170 : decode cL_law 170 = .ok (.imul, 1) := by decide +kernel
theorem dL_law_171 : decode cL_law 171 = .ok (.invokestatic 87, 3) := by decide +kernel
theorem dL_law_174 : decode cL_law 174 = .ok (.istore 18, 2) := by decide +kernel
theorem dL_law_176 : decode cL_law 176 = .ok (.iload 18, 2) := by decide +kernel
theorem dL_law_178 : decode cL_law 178 = .ok (.ifCond .ge 45, 3) := by decide +kernel
theorem dL_law_181 : decode cL_law 181 = .ok (.aload_n 1, 1) := by decide +kernel
theorem dL_law_182 : decode cL_law 182 = .ok (.bipush 10, 2) := by decide +kernel
theorem dL_law_184 : decode cL_law 184 = .ok (.invokevirtual 29, 3) := by decide +kernel
theorem dL_law_187 : decode cL_law 187 = .ok (.iload 5, 2) := by decide +kernel
theorem dL_law_189 : decode cL_law 189 = .ok (.if_icmp .ne 38, 3) := by decide +kernel
theorem dL_law_192 : decode cL_law 192 = .ok (.aload_n 1, 1) := by decide +kernel
theorem dL_law_193 : decode cL_law 193 = .ok (.iconst 1, 1) := by decide +kernel
theorem dL_law_194 : decode cL_law 194 = .ok (.invokevirtual 29, 3) := by decide +kernel
theorem dL_law_197 : decode cL_law 197 = .ok (.iload 6, 2) := by decide +kernel
theorem dL_law_199 : decode cL_law 199 = .ok (.if_icmp .ne 28, 3) := by decide +kernel
theorem dL_law_202 : decode cL_law 202 = .ok (.aload_n 1, 1) := by decide +kernel
theorem dL_law_203 : decode cL_law 203 = .ok (.iconst 0, 1) := by decide +kernel
theorem dL_law_204 : decode cL_law 204 = .ok (.invokevirtual 29, 3) := by decide +kernel
theorem dL_law_207 : decode cL_law 207 = .ok (.iload 7, 2) := by decide +kernel
theorem dL_law_209 : decode cL_law 209 = .ok (.if_icmp .ne 18, 3) := by decide +kernel
theorem dL_law_212 : decode cL_law 212 = .ok (.aload_n 1, 1) := by decide +kernel
theorem dL_law_213 : decode cL_law 213 = .ok (.bipush 6, 2) := by decide +kernel
theorem dL_law_215 : decode cL_law 215 = .ok (.invokevirtual 29, 3) := by decide +kernel
theorem dL_law_218 : decode cL_law 218 = .ok (.iload 10, 2) := by decide +kernel
theorem dL_law_220 : decode cL_law 220 = .ok (.if_icmp .ne 7, 3) := by decide +kernel
theorem dL_law_223 : decode cL_law 223 = .ok (.iconst 1, 1) := by decide +kernel
theorem dL_law_224 : decode cL_law 224 = .ok (.goto 4, 3) := by decide +kernel
theorem dL_law_227 : decode cL_law 227 = .ok (.iconst 0, 1) := by decide +kernel
theorem dL_law_228 : decode cL_law 228 = .ok (.istore_n 2, 1) := by decide +kernel
theorem dL_law_229 : decode cL_law 229 = .ok (.iload_n 2, 1) := by decide +kernel
theorem dL_law_230 : decode cL_law 230 = .ok (.ifCond .eq 67, 3) := by decide +kernel
theorem dL_law_233 : decode cL_law 233 = .ok (.iload 13, 2) := by decide +kernel
theorem dL_law_235 : decode cL_law 235 = .ok (.iconst 5, 1) := by decide +kernel
theorem dL_law_236 : decode cL_law 236 = .ok (.if_icmp .lt 57, 3) := by decide +kernel
theorem dL_law_239 : decode cL_law 239 = .ok (.iload 13, 2) := by decide +kernel
theorem dL_law_241 : decode cL_law 241 = .ok (.bipush 9, 2) := by decide +kernel
theorem dL_law_243 : decode cL_law 243 = .ok (.if_icmp .gt 50, 3) := by decide +kernel
theorem dL_law_246 : decode cL_law 246 = .ok (.iload 18, 2) := by decide +kernel
theorem dL_law_248 : decode cL_law 248 = .ok (.iload 17, 2) := by decide +kernel
theorem dL_law_250 : decode cL_law 250 = .ok (.if_icmp .ne 47, 3) := by decide +kernel
theorem dL_law_253 : decode cL_law 253 = .ok (.aload_n 1, 1) := by decide +kernel
theorem dL_law_254 : decode cL_law 254 = .ok (.iconst 4, 1) := by decide +kernel
theorem dL_law_255 : decode cL_law 255 = .ok (.invokevirtual 29, 3) := by decide +kernel
theorem dL_law_258 : decode cL_law 258 = .ok (.iload 8, 2) := by decide +kernel
theorem dL_law_260 : decode cL_law 260 = .ok (.iload 17, 2) := by decide +kernel
theorem dL_law_262 : decode cL_law 262 = .ok (.iadd, 1) := by decide +kernel
theorem dL_law_263 : decode cL_law 263 = .ok (.if_icmp .ne 34, 3) := by decide +kernel
theorem dL_law_266 : decode cL_law 266 = .ok (.aload_n 1, 1) := by decide +kernel
theorem dL_law_267 : decode cL_law 267 = .ok (.bipush 6, 2) := by decide +kernel
theorem dL_law_269 : decode cL_law 269 = .ok (.invokevirtual 29, 3) := by decide +kernel
theorem dL_law_272 : decode cL_law 272 = .ok (.iload 10, 2) := by decide +kernel
theorem dL_law_274 : decode cL_law 274 = .ok (.iload 16, 2) := by decide +kernel
theorem dL_law_276 : decode cL_law 276 = .ok (.iadd, 1) := by decide +kernel
theorem dL_law_277 : decode cL_law 277 = .ok (.if_icmp .ne 20, 3) := by decide +kernel
theorem dL_law_280 : decode cL_law 280 = .ok (.aload_n 1, 1) := by decide +kernel
theorem dL_law_281 : decode cL_law 281 = .ok (.iconst 0, 1) := by decide +kernel
theorem dL_law_282 : decode cL_law 282 = .ok (.invokevirtual 29, 3) := by decide +kernel
theorem dL_law_285 : decode cL_law 285 = .ok (.iload 7, 2) := by decide +kernel
theorem dL_law_287 : decode cL_law 287 = .ok (.iload 15, 2) := by decide +kernel
theorem dL_law_289 : decode cL_law 289 = .ok (.iadd, 1) := by decide +kernel
theorem dL_law_290 : decode cL_law 290 = .ok (.if_icmp .ne 7, 3) := by decide +kernel
theorem dL_law_293 : decode cL_law 293 = .ok (.iconst 1, 1) := by decide +kernel
theorem dL_law_294 : decode cL_law 294 = .ok (.goto 4, 3) := by decide +kernel
theorem dL_law_297 : decode cL_law 297 = .ok (.iconst 0, 1) := by decide +kernel
theorem dL_law_298 : decode cL_law 298 = .ok (.istore_n 2, 1) := by decide +kernel
theorem dL_law_299 : decode cL_law 299 = .ok (.iload_n 2, 1) := by decide +kernel
theorem dL_law_300 : decode cL_law 300 = .ok (.ifCond .eq 105, 3) := by decide +kernel
theorem dL_law_303 : decode cL_law 303 = .ok (.iload 12, 2) := by decide +kernel
theorem dL_law_305 : decode cL_law 305 = .ok (.ifCond .eq 30, 3) := by decide +kernel
theorem dL_law_308 : decode cL_law 308 = .ok (.iload 13, 2) := by decide +kernel
theorem dL_law_310 : decode cL_law 310 = .ok (.bipush 19, 2) := by decide +kernel
theorem dL_law_312 : decode cL_law 312 = .ok (.if_icmp .eq 23, 3) := by decide +kernel
theorem dL_law_315 : decode cL_law 315 = .ok (.aload_n 1, 1) := by decide +kernel
theorem dL_law_316 : decode cL_law 316 = .ok (.iconst 4, 1) := by decide +kernel
theorem dL_law_317 : decode cL_law 317 = .ok (.invokevirtual 29, 3) := by decide +kernel
theorem dL_law_320 : decode cL_law 320 = .ok (.iload 8, 2) := by decide +kernel
theorem dL_law_322 : decode cL_law 322 = .ok (.if_icmp .ne 83, 3) := by decide +kernel
theorem dL_law_325 : decode cL_law 325 = .ok (.aload_n 1, 1) := by decide +kernel
theorem dL_law_326 : decode cL_law 326 = .ok (.iconst 5, 1) := by decide +kernel
theorem dL_law_327 : decode cL_law 327 = .ok (.invokevirtual 29, 3) := by decide +kernel
theorem dL_law_330 : decode cL_law 330 = .ok (.iload 9, 2) := by decide +kernel
theorem dL_law_332 : decode cL_law 332 = .ok (.if_icmp .ne 73, 3) := by decide +kernel
theorem dL_law_335 : decode cL_law 335 = .ok (.iload 13, 2) := by decide +kernel
theorem dL_law_337 : decode cL_law 337 = .ok (.iconst 4, 1) := by decide +kernel
theorem dL_law_338 : decode cL_law 338 = .ok (.if_icmp .gt 22, 3) := by decide +kernel
theorem dL_law_341 : decode cL_law 341 = .ok (.iload 18, 2) := by decide +kernel
theorem dL_law_343 : decode cL_law 343 = .ok (.iload 6, 2) := by decide +kernel
theorem dL_law_345 : decode cL_law 345 = .ok (.bipush 6, 2) := by decide +kernel
theorem dL_law_347 : decode cL_law 347 = .ok (.if_icmp .ne 8, 3) := by decide +kernel
theorem dL_law_350 : decode cL_law 350 = .ok (.bipush (-3), 2) := by decide +kernel
theorem dL_law_352 : decode cL_law 352 = .ok (.goto 5, 3) := by decide +kernel
theorem dL_law_355 : decode cL_law 355 = .ok (.iload 11, 2) := by decide +kernel
theorem dL_law_357 : decode cL_law 357 = .ok (.if_icmp .ne 48, 3) := by decide +kernel
theorem dL_law_360 : decode cL_law 360 = .ok (.iload 13, 2) := by decide +kernel
theorem dL_law_362 : decode cL_law 362 = .ok (.bipush 11, 2) := by decide +kernel
theorem dL_law_364 : decode cL_law 364 = .ok (.if_icmp .eq 10, 3) := by decide +kernel
theorem dL_law_367 : decode cL_law 367 = .ok (.iload 13, 2) := by decide +kernel
theorem dL_law_369 : decode cL_law 369 = .ok (.bipush 12, 2) := by decide +kernel
theorem dL_law_371 : decode cL_law 371 = .ok (.if_icmp .ne 23, 3) := by decide +kernel
theorem dL_law_374 : decode cL_law 374 = .ok (.aload_n 1, 1) := by decide +kernel
theorem dL_law_375 : decode cL_law 375 = .ok (.iload 14, 2) := by decide +kernel
theorem dL_law_377 : decode cL_law 377 = .ok (.bipush 8, 2) := by decide +kernel
theorem dL_law_379 : decode cL_law 379 = .ok (.invokestatic 52, 3) := by decide +kernel
theorem dL_law_382 : decode cL_law 382 = .ok (.iconst 1, 1) := by decide +kernel
theorem dL_law_383 : decode cL_law 383 = .ok (.invokevirtual 26, 3) := by decide +kernel
theorem dL_law_386 : decode cL_law 386 = .ok (.aload_n 1, 1) := by decide +kernel
theorem dL_law_387 : decode cL_law 387 = .ok (.iconst 0, 1) := by decide +kernel
theorem dL_law_388 : decode cL_law 388 = .ok (.invokevirtual 33, 3) := by decide +kernel
theorem dL_law_391 : decode cL_law 391 = .ok (.if_icmp .lt 14, 3) := by decide +kernel
theorem dL_law_394 : decode cL_law 394 = .ok (.aload_n 1, 1) := by decide +kernel
theorem dL_law_395 : decode cL_law 395 = .ok (.invokestatic 91, 3) := by decide +kernel
theorem dL_law_398 : decode cL_law 398 = .ok (.ifCond .eq 7, 3) := by decide +kernel
theorem dL_law_401 : decode cL_law 401 = .ok (.iconst 1, 1) := by decide +kernel
theorem dL_law_402 : decode cL_law 402 = .ok (.goto 4, 3) := by decide +kernel
theorem dL_law_405 : decode cL_law 405 = .ok (.iconst 0, 1) := by decide +kernel
theorem dL_law_406 : decode cL_law 406 = .ok (.istore_n 2, 1) := by decide +kernel
theorem dL_law_407 : decode cL_law 407 = .ok (.iinc 4 1, 3) := by decide +kernel
theorem dL_law_410 : decode cL_law 410 = .ok (.goto (-378), 3) := by decide +kernel
theorem dL_law_413 : decode cL_law 413 = .ok (.aload_n 0, 1) := by decide +kernel
theorem dL_law_414 : decode cL_law 414 = .ok (.iconst 1, 1) := by decide +kernel
theorem dL_law_415 : decode cL_law 415 = .ok (.invokestatic 46, 3) := by decide +kernel
theorem dL_law_418 : decode cL_law 418 = .ok (.bipush 8, 2) := by decide +kernel
theorem dL_law_420 : decode cL_law 420 = .ok (.invokestatic 52, 3) := by decide +kernel
theorem dL_law_423 : decode cL_law 423 = .ok (.istore 4, 2) := by decide +kernel
theorem dL_law_425 : decode cL_law 425 = .ok (.iload 4, 2) := by decide +kernel
theorem dL_law_427 : decode cL_law 427 = .ok (.iconst 1, 1) := by decide +kernel
theorem dL_law_428 : decode cL_law 428 = .ok (.iadd, 1) := by decide +kernel
theorem dL_law_429 : decode cL_law 429 = .ok (.aload_n 0, 1) := by decide +kernel
theorem dL_law_430 : decode cL_law 430 = .ok (.iconst 2, 1) := by decide +kernel
theorem dL_law_431 : decode cL_law 431 = .ok (.invokestatic 46, 3) := by decide +kernel
theorem dL_law_434 : decode cL_law 434 = .ok (.bipush 7, 2) := by decide +kernel
theorem dL_law_436 : decode cL_law 436 = .ok (.invokestatic 52, 3) := by decide +kernel
theorem dL_law_439 : decode cL_law 439 = .ok (.iadd, 1) := by decide +kernel
theorem dL_law_440 : decode cL_law 440 = .ok (.bipush 8, 2) := by decide +kernel
theorem dL_law_442 : decode cL_law 442 = .ok (.irem, 1) := by decide +kernel
theorem dL_law_443 : decode cL_law 443 = .ok (.istore 5, 2) := by decide +kernel
theorem dL_law_445 : decode cL_law 445 = .ok (.iload_n 2, 1) := by decide +kernel
theorem dL_law_446 : decode cL_law 446 = .ok (.ifCond .eq 56, 3) := by decide +kernel
theorem dL_law_449 : decode cL_law 449 = .ok (.aload_n 1, 1) := by decide +kernel
theorem dL_law_450 : decode cL_law 450 = .ok (.iload 4, 2) := by decide +kernel
theorem dL_law_452 : decode cL_law 452 = .ok (.iload 5, 2) := by decide +kernel
theorem dL_law_454 : decode cL_law 454 = .ok (.invokevirtual 95, 3) := by decide +kernel
theorem dL_law_457 : decode cL_law 457 = .ok (.ifCond .lt 45, 3) := by decide +kernel
theorem dL_law_460 : decode cL_law 460 = .ok (.aload_n 1, 1) := by decide +kernel
theorem dL_law_461 : decode cL_law 461 = .ok (.bipush 9, 2) := by decide +kernel
theorem dL_law_463 : decode cL_law 463 = .ok (.invokevirtual 29, 3) := by decide +kernel
theorem dL_law_466 : decode cL_law 466 = .ok (.ifCond .le 21, 3) := by decide +kernel
theorem dL_law_469 : decode cL_law 469 = .ok (.aload_n 1, 1) := by decide +kernel
theorem dL_law_470 : decode cL_law 470 = .ok (.bipush 7, 2) := by decide +kernel
theorem dL_law_472 : decode cL_law 472 = .ok (.invokevirtual 29, 3) := by decide +kernel
theorem dL_law_475 : decode cL_law 475 = .ok (.ifCond .ne 12, 3) := by decide +kernel
theorem dL_law_478 : decode cL_law 478 = .ok (.aload_n 1, 1) := by decide +kernel
theorem dL_law_479 : decode cL_law 479 = .ok (.bipush 8, 2) := by decide +kernel
theorem dL_law_481 : decode cL_law 481 = .ok (.invokevirtual 29, 3) := by decide +kernel
theorem dL_law_484 : decode cL_law 484 = .ok (.ifCond .eq 14, 3) := by decide +kernel
theorem dL_law_487 : decode cL_law 487 = .ok (.aload_n 1, 1) := by decide +kernel
theorem dL_law_488 : decode cL_law 488 = .ok (.iload 4, 2) := by decide +kernel
theorem dL_law_490 : decode cL_law 490 = .ok (.iload 5, 2) := by decide +kernel
theorem dL_law_492 : decode cL_law 492 = .ok (.invokevirtual 95, 3) := by decide +kernel
theorem dL_law_495 : decode cL_law 495 = .ok (.ifCond .ne 7, 3) := by decide +kernel
theorem dL_law_498 : decode cL_law 498 = .ok (.iconst 1, 1) := by decide +kernel
theorem dL_law_499 : decode cL_law 499 = .ok (.goto 4, 3) := by decide +kernel
theorem dL_law_502 : decode cL_law 502 = .ok (.iconst 0, 1) := by decide +kernel
theorem dL_law_503 : decode cL_law 503 = .ok (.ireturn, 1) := by decide +kernel
