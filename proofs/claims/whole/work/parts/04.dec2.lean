theorem dX5_countsOf_141 : decode cX5_countsOf 141 = .ok (.iadd, 1) := by decide +kernel
theorem dX5_countsOf_142 : decode cX5_countsOf 142 = .ok (.goto 5, 3) := by decide +kernel
theorem dX5_countsOf_145 : decode cX5_countsOf 145 = .ok (.iload 6, 2) := by decide +kernel
theorem dX5_countsOf_147 : decode cX5_countsOf 147 = .ok (.ireturn, 1) := by decide +kernel
theorem dX5_countsOf_148 : decode cX5_countsOf 148 = .ok (.iload 4, 2) := by decide +kernel
theorem dX5_countsOf_150 : decode cX5_countsOf 150 = .ok (.ireturn, 1) := by decide +kernel
theorem dX5_of_0 : decode cX5_of 0 = .ok (.aload_n 0, 1) := by decide +kernel
theorem dX5_of_1 : decode cX5_of 1 = .ok (.iload_n 1, 1) := by decide +kernel
theorem dX5_of_2 : decode cX5_of 2 = .ok (.invokevirtual 93, 3) := by decide +kernel
theorem dX5_of_5 : decode cX5_of 5 = .ok (.ifCond .eq 15, 3) := by decide +kernel
theorem dX5_of_8 : decode cX5_of 8 = .ok (.iload_n 2, 1) := by decide +kernel
theorem dX5_of_9 : decode cX5_of 9 = .ok (.i2l, 1) := by decide +kernel
theorem dX5_of_10 : decode cX5_of 10 = .ok (.lconst 0, 1) := by decide +kernel
theorem dX5_of_11 : decode cX5_of 11 = .ok (.ldc2_w 46, 3) := by decide +kernel
theorem dX5_of_14 : decode cX5_of 14 = .ok (.invokestatic 42, 3) := by decide +kernel
theorem dX5_of_17 : decode cX5_of 17 = .ok (.ifCond .ne 10, 3) := by decide +kernel
theorem dX5_of_20 : decode cX5_of 20 = .ok (.aload_n 0, 1) := by decide +kernel
theorem dX5_of_21 : decode cX5_of 21 = .ok (.ldc 41, 2) := by decide +kernel
theorem dX5_of_23 : decode cX5_of 23 = .ok (.invokevirtual 61, 3) := by decide +kernel
theorem dX5_of_26 : decode cX5_of 26 = .ok (.ireturn, 1) := by decide +kernel
theorem dX5_of_27 : decode cX5_of 27 = .ok (.iload_n 2, 1) := by decide +kernel
theorem dX5_of_28 : decode cX5_of 28 = .ok (.tableswitch 54 3 5 #[28, 42, 48], 28) := by decide +kernel
theorem dX5_of_56 : decode cX5_of 56 = .ok (.aload_n 0, 1) := by decide +kernel
theorem dX5_of_57 : decode cX5_of 57 = .ok (.iload_n 1, 1) := by decide +kernel
theorem dX5_of_58 : decode cX5_of 58 = .ok (.invokevirtual 96, 3) := by decide +kernel
theorem dX5_of_61 : decode cX5_of 61 = .ok (.ifCond .eq 7, 3) := by decide +kernel
theorem dX5_of_64 : decode cX5_of 64 = .ok (.iconst 1, 1) := by decide +kernel
theorem dX5_of_65 : decode cX5_of 65 = .ok (.goto 4, 3) := by decide +kernel
theorem dX5_of_68 : decode cX5_of 68 = .ok (.iconst 0, 1) := by decide +kernel
theorem dX5_of_69 : decode cX5_of 69 = .ok (.ireturn, 1) := by decide +kernel
theorem dX5_of_70 : decode cX5_of 70 = .ok (.aload_n 0, 1) := by decide +kernel
theorem dX5_of_71 : decode cX5_of 71 = .ok (.iload_n 1, 1) := by decide +kernel
theorem dX5_of_72 : decode cX5_of 72 = .ok (.invokevirtual 99, 3) := by decide +kernel
theorem dX5_of_75 : decode cX5_of 75 = .ok (.ireturn, 1) := by decide +kernel
theorem dX5_of_76 : decode cX5_of 76 = .ok (.aload_n 0, 1) := by decide +kernel
theorem dX5_of_77 : decode cX5_of 77 = .ok (.iload_n 1, 1) := by decide +kernel
theorem dX5_of_78 : decode cX5_of 78 = .ok (.invokevirtual 102, 3) := by decide +kernel
theorem dX5_of_81 : decode cX5_of 81 = .ok (.ireturn, 1) := by decide +kernel
theorem dX5_of_82 : decode cX5_of 82 = .ok (.aload_n 0, 1) := by decide +kernel
theorem dX5_of_83 : decode cX5_of 83 = .ok (.iload_n 1, 1) := by decide +kernel
theorem dX5_of_84 : decode cX5_of 84 = .ok (.iload_n 2, 1) := by decide +kernel
theorem dX5_of_85 : decode cX5_of 85 = .ok (.invokevirtual 87, 3) := by decide +kernel
theorem dX5_of_88 : decode cX5_of 88 = .ok (.ireturn, 1) := by decide +kernel
theorem dX5_set_0 : decode cX5_set 0 = .ok (.iload_n 2, 1) := by decide +kernel
theorem dX5_set_1 : decode cX5_set 1 = .ok (.iconst 1, 1) := by decide +kernel
theorem dX5_set_2 : decode cX5_set 2 = .ok (.if_icmp .ne 15, 3) := by decide +kernel
theorem dX5_set_5 : decode cX5_set 5 = .ok (.iload_n 3, 1) := by decide +kernel
theorem dX5_set_6 : decode cX5_set 6 = .ok (.i2l, 1) := by decide +kernel
theorem dX5_set_7 : decode cX5_set 7 = .ok (.lconst 0, 1) := by decide +kernel
theorem dX5_set_8 : decode cX5_set 8 = .ok (.ldc2_w 75, 3) := by decide +kernel
theorem dX5_set_11 : decode cX5_set 11 = .ok (.invokestatic 42, 3) := by decide +kernel
theorem dX5_set_14 : decode cX5_set 14 = .ok (.goto 25, 3) := by decide +kernel
theorem dX5_set_17 : decode cX5_set 17 = .ok (.iload_n 2, 1) := by decide +kernel
theorem dX5_set_18 : decode cX5_set 18 = .ok (.iconst 2, 1) := by decide +kernel
theorem dX5_set_19 : decode cX5_set 19 = .ok (.if_icmp .ne 19, 3) := by decide +kernel
theorem dX5_set_22 : decode cX5_set 22 = .ok (.iload_n 3, 1) := by decide +kernel
theorem dX5_set_23 : decode cX5_set 23 = .ok (.i2l, 1) := by decide +kernel
theorem dX5_set_24 : decode cX5_set 24 = .ok (.lconst 0, 1) := by decide +kernel
theorem dX5_set_25 : decode cX5_set 25 = .ok (.ldc2_w 105, 3) := by decide +kernel
theorem dX5_set_28 : decode cX5_set 28 = .ok (.invokestatic 42, 3) := by decide +kernel
theorem dX5_set_31 : decode cX5_set 31 = .ok (.ifCond .eq 7, 3) := by decide +kernel
theorem dX5_set_34 : decode cX5_set 34 = .ok (.iconst 1, 1) := by decide +kernel
theorem dX5_set_35 : decode cX5_set 35 = .ok (.goto 4, 3) := by decide +kernel
theorem dX5_set_38 : decode cX5_set 38 = .ok (.iconst 0, 1) := by decide +kernel
theorem dX5_set_39 : decode cX5_set 39 = .ok (.istore 4, 2) := by decide +kernel
theorem dX5_set_41 : decode cX5_set 41 = .ok (.aload_n 0, 1) := by decide +kernel
theorem dX5_set_42 : decode cX5_set 42 = .ok (.iload_n 1, 1) := by decide +kernel
theorem dX5_set_43 : decode cX5_set 43 = .ok (.invokevirtual 93, 3) := by decide +kernel
theorem dX5_set_46 : decode cX5_set 46 = .ok (.ifCond .eq 21, 3) := by decide +kernel
theorem dX5_set_49 : decode cX5_set 49 = .ok (.iload 4, 2) := by decide +kernel
theorem dX5_set_51 : decode cX5_set 51 = .ok (.ifCond .eq 16, 3) := by decide +kernel
theorem dX5_set_54 : decode cX5_set 54 = .ok (.aload_n 0, 1) := by decide +kernel
theorem dX5_set_55 : decode cX5_set 55 = .ok (.iload_n 1, 1) := by decide +kernel
theorem dX5_set_56 : decode cX5_set 56 = .ok (.iload_n 2, 1) := by decide +kernel
theorem dX5_set_57 : decode cX5_set 57 = .ok (.invokestatic 54, 3) := by decide +kernel
theorem dX5_set_60 : decode cX5_set 60 = .ok (.iload_n 3, 1) := by decide +kernel
theorem dX5_set_61 : decode cX5_set 61 = .ok (.invokevirtual 77, 3) := by decide +kernel
theorem dX5_set_64 : decode cX5_set 64 = .ok (.goto 9, 3) := by decide +kernel
theorem dX5_set_67 : decode cX5_set 67 = .ok (.aload_n 0, 1) := by decide +kernel
theorem dX5_set_68 : decode cX5_set 68 = .ok (.ldc 41, 2) := by decide +kernel
theorem dX5_set_70 : decode cX5_set 70 = .ok (.invokevirtual 61, 3) := by decide +kernel
theorem dX5_set_73 : decode cX5_set 73 = .ok (.ireturn, 1) := by decide +kernel
theorem dX5_turn_0 : decode cX5_turn 0 = .ok (.aload_n 0, 1) := by decide +kernel
theorem dX5_turn_1 : decode cX5_turn 1 = .ok (.iload_n 1, 1) := by decide +kernel
theorem dX5_turn_2 : decode cX5_turn 2 = .ok (.invokevirtual 93, 3) := by decide +kernel
theorem dX5_turn_5 : decode cX5_turn 5 = .ok (.ifCond .eq 23, 3) := by decide +kernel
theorem dX5_turn_8 : decode cX5_turn 8 = .ok (.iload_n 2, 1) := by decide +kernel
theorem dX5_turn_9 : decode cX5_turn 9 = .ok (.invokestatic 81, 3) := by decide +kernel
theorem dX5_turn_12 : decode cX5_turn 12 = .ok (.ifCond .eq 16, 3) := by decide +kernel
theorem dX5_turn_15 : decode cX5_turn 15 = .ok (.aload_n 0, 1) := by decide +kernel
theorem dX5_turn_16 : decode cX5_turn 16 = .ok (.iload_n 1, 1) := by decide +kernel
theorem dX5_turn_17 : decode cX5_turn 17 = .ok (.iconst 0, 1) := by decide +kernel
theorem dX5_turn_18 : decode cX5_turn 18 = .ok (.invokestatic 54, 3) := by decide +kernel
theorem dX5_turn_21 : decode cX5_turn 21 = .ok (.iload_n 2, 1) := by decide +kernel
theorem dX5_turn_22 : decode cX5_turn 22 = .ok (.invokevirtual 77, 3) := by decide +kernel
theorem dX5_turn_25 : decode cX5_turn 25 = .ok (.goto 9, 3) := by decide +kernel
theorem dX5_turn_28 : decode cX5_turn 28 = .ok (.aload_n 0, 1) := by decide +kernel
theorem dX5_turn_29 : decode cX5_turn 29 = .ok (.ldc 41, 2) := by decide +kernel
theorem dX5_turn_31 : decode cX5_turn 31 = .ok (.invokevirtual 61, 3) := by decide +kernel
theorem dX5_turn_34 : decode cX5_turn 34 = .ok (.ireturn, 1) := by decide +kernel
theorem dX5_isUnder_0 : decode cX5_isUnder 0 = .ok (.iload_n 1, 1) := by decide +kernel
theorem dX5_isUnder_1 : decode cX5_isUnder 1 = .ok (.ifCond .eq 28, 3) := by decide +kernel
theorem dX5_isUnder_4 : decode cX5_isUnder 4 = .ok (.iload_n 0, 1) := by decide +kernel
theorem dX5_isUnder_5 : decode cX5_isUnder 5 = .ok (.iload_n 1, 1) := by decide +kernel
theorem dX5_isUnder_6 : decode cX5_isUnder 6 = .ok (.if_icmp .eq 23, 3) := by decide +kernel
theorem dX5_isUnder_9 : decode cX5_isUnder 9 = .ok (.iload_n 0, 1) := by decide +kernel
theorem dX5_isUnder_10 : decode cX5_isUnder 10 = .ok (.iconst 4, 1) := by decide +kernel
theorem dX5_isUnder_11 : decode cX5_isUnder 11 = .ok (.if_icmp .ne 8, 3) := by decide +kernel
theorem dX5_isUnder_14 : decode cX5_isUnder 14 = .ok (.iload_n 1, 1) := by decide +kernel
theorem dX5_isUnder_15 : decode cX5_isUnder 15 = .ok (.iconst 1, 1) := by decide +kernel
theorem dX5_isUnder_16 : decode cX5_isUnder 16 = .ok (.if_icmp .eq 13, 3) := by decide +kernel
theorem dX5_isUnder_19 : decode cX5_isUnder 19 = .ok (.iload_n 0, 1) := by decide +kernel
theorem dX5_isUnder_20 : decode cX5_isUnder 20 = .ok (.iconst 5, 1) := by decide +kernel
theorem dX5_isUnder_21 : decode cX5_isUnder 21 = .ok (.if_icmp .ne 12, 3) := by decide +kernel
theorem dX5_isUnder_24 : decode cX5_isUnder 24 = .ok (.iload_n 1, 1) := by decide +kernel
theorem dX5_isUnder_25 : decode cX5_isUnder 25 = .ok (.iconst 3, 1) := by decide +kernel
theorem dX5_isUnder_26 : decode cX5_isUnder 26 = .ok (.if_icmp .ne 7, 3) := by decide +kernel
theorem dX5_isUnder_29 : decode cX5_isUnder 29 = .ok (.iconst 1, 1) := by decide +kernel
theorem dX5_isUnder_30 : decode cX5_isUnder 30 = .ok (.goto 4, 3) := by decide +kernel
theorem dX5_isUnder_33 : decode cX5_isUnder 33 = .ok (.iconst 0, 1) := by decide +kernel
theorem dX5_isUnder_34 : decode cX5_isUnder 34 = .ok (.ireturn, 1) := by decide +kernel
theorem dX5_as_0 : decode cX5_as 0 = .ok (.aload_n 0, 1) := by decide +kernel
theorem dX5_as_1 : decode cX5_as 1 = .ok (.iload_n 1, 1) := by decide +kernel
theorem dX5_as_2 : decode cX5_as 2 = .ok (.invokevirtual 93, 3) := by decide +kernel
theorem dX5_as_5 : decode cX5_as 5 = .ok (.ifCond .eq 10, 3) := by decide +kernel
theorem dX5_as_8 : decode cX5_as 8 = .ok (.iload_n 2, 1) := by decide +kernel
theorem dX5_as_9 : decode cX5_as 9 = .ok (.invokestatic 81, 3) := by decide +kernel
theorem dX5_as_12 : decode cX5_as 12 = .ok (.ifCond .ne 10, 3) := by decide +kernel
theorem dX5_as_15 : decode cX5_as 15 = .ok (.aload_n 0, 1) := by decide +kernel
theorem dX5_as_16 : decode cX5_as 16 = .ok (.ldc 41, 2) := by decide +kernel
theorem dX5_as_18 : decode cX5_as 18 = .ok (.invokevirtual 61, 3) := by decide +kernel
theorem dX5_as_21 : decode cX5_as 21 = .ok (.ireturn, 1) := by decide +kernel
theorem dX5_as_22 : decode cX5_as 22 = .ok (.aload_n 0, 1) := by decide +kernel
theorem dX5_as_23 : decode cX5_as 23 = .ok (.iload_n 1, 1) := by decide +kernel
theorem dX5_as_24 : decode cX5_as 24 = .ok (.iconst 0, 1) := by decide +kernel
theorem dX5_as_25 : decode cX5_as 25 = .ok (.invokevirtual 87, 3) := by decide +kernel
theorem dX5_as_28 : decode cX5_as 28 = .ok (.iload_n 2, 1) := by decide +kernel
theorem dX5_as_29 : decode cX5_as 29 = .ok (.invokestatic 107, 3) := by decide +kernel
theorem dX5_as_32 : decode cX5_as 32 = .ok (.ifCond .eq 12, 3) := by decide +kernel
theorem dX5_as_35 : decode cX5_as 35 = .ok (.aload_n 0, 1) := by decide +kernel
theorem dX5_as_36 : decode cX5_as 36 = .ok (.iload_n 1, 1) := by decide +kernel
theorem dX5_as_37 : decode cX5_as 37 = .ok (.iconst 1, 1) := by decide +kernel
theorem dX5_as_38 : decode cX5_as 38 = .ok (.invokevirtual 87, 3) := by decide +kernel
theorem dX5_as_41 : decode cX5_as 41 = .ok (.goto 9, 3) := by decide +kernel
theorem dX5_as_44 : decode cX5_as 44 = .ok (.aload_n 0, 1) := by decide +kernel
theorem dX5_as_45 : decode cX5_as 45 = .ok (.ldc 111, 2) := by decide +kernel
theorem dX5_as_47 : decode cX5_as 47 = .ok (.invokevirtual 61, 3) := by decide +kernel
theorem dX5_as_50 : decode cX5_as 50 = .ok (.ireturn, 1) := by decide +kernel
theorem dX5_counts_0 : decode cX5_counts 0 = .ok (.aload_n 0, 1) := by decide +kernel
theorem dX5_counts_1 : decode cX5_counts 1 = .ok (.iload_n 1, 1) := by decide +kernel
theorem dX5_counts_2 : decode cX5_counts 2 = .ok (.invokevirtual 93, 3) := by decide +kernel
theorem dX5_counts_5 : decode cX5_counts 5 = .ok (.ifCond .eq 19, 3) := by decide +kernel
theorem dX5_counts_8 : decode cX5_counts 8 = .ok (.iload_n 2, 1) := by decide +kernel
theorem dX5_counts_9 : decode cX5_counts 9 = .ok (.invokestatic 57, 3) := by decide +kernel
theorem dX5_counts_12 : decode cX5_counts 12 = .ok (.ifCond .eq 12, 3) := by decide +kernel
theorem dX5_counts_15 : decode cX5_counts 15 = .ok (.aload_n 0, 1) := by decide +kernel
theorem dX5_counts_16 : decode cX5_counts 16 = .ok (.iload_n 1, 1) := by decide +kernel
theorem dX5_counts_17 : decode cX5_counts 17 = .ok (.iload_n 2, 1) := by decide +kernel
theorem dX5_counts_18 : decode cX5_counts 18 = .ok (.invokevirtual 112, 3) := by decide +kernel
theorem dX5_counts_21 : decode cX5_counts 21 = .ok (.goto 9, 3) := by decide +kernel
theorem dX5_counts_24 : decode cX5_counts 24 = .ok (.aload_n 0, 1) := by decide +kernel
theorem dX5_counts_25 : decode cX5_counts 25 = .ok (.ldc 41, 2) := by decide +kernel
theorem dX5_counts_27 : decode cX5_counts 27 = .ok (.invokevirtual 61, 3) := by decide +kernel
theorem dX5_counts_30 : decode cX5_counts 30 = .ok (.ireturn, 1) := by decide +kernel
theorem dX5_isPassing_0 : decode cX5_isPassing 0 = .ok (.aload_n 0, 1) := by decide +kernel
theorem dX5_isPassing_1 : decode cX5_isPassing 1 = .ok (.iload_n 1, 1) := by decide +kernel
theorem dX5_isPassing_2 : decode cX5_isPassing 2 = .ok (.iconst 1, 1) := by decide +kernel
theorem dX5_isPassing_3 : decode cX5_isPassing 3 = .ok (.invokevirtual 72, 3) := by decide +kernel
theorem dX5_isPassing_6 : decode cX5_isPassing 6 = .ok (.bipush 99, 2) := by decide +kernel
theorem dX5_isPassing_8 : decode cX5_isPassing 8 = .ok (.if_icmp .ge 7, 3) := by decide +kernel
theorem dX5_isPassing_11 : decode cX5_isPassing 11 = .ok (.iconst 1, 1) := by decide +kernel
theorem dX5_isPassing_12 : decode cX5_isPassing 12 = .ok (.goto 4, 3) := by decide +kernel
theorem dX5_isPassing_15 : decode cX5_isPassing 15 = .ok (.iconst 0, 1) := by decide +kernel
theorem dX5_isPassing_16 : decode cX5_isPassing 16 = .ok (.ireturn, 1) := by decide +kernel
theorem dX5_passes_0 : decode cX5_passes 0 = .ok (.aload_n 0, 1) := by decide +kernel
theorem dX5_passes_1 : decode cX5_passes 1 = .ok (.iload_n 1, 1) := by decide +kernel
theorem dX5_passes_2 : decode cX5_passes 2 = .ok (.iconst 1, 1) := by decide +kernel
theorem dX5_passes_3 : decode cX5_passes 3 = .ok (.invokevirtual 72, 3) := by decide +kernel
theorem dX5_passes_6 : decode cX5_passes 6 = .ok (.istore_n 2, 1) := by decide +kernel
theorem dX5_passes_7 : decode cX5_passes 7 = .ok (.iconst 0, 1) := by decide +kernel
theorem dX5_passes_8 : decode cX5_passes 8 = .ok (.istore_n 3, 1) := by decide +kernel
theorem dX5_passes_9 : decode cX5_passes 9 = .ok (.iload_n 3, 1) := by decide +kernel
theorem dX5_passes_10 : decode cX5_passes 10 = .ok (.aload_n 0, 1) := by decide +kernel
theorem dX5_passes_11 : decode cX5_passes 11 = .ok (.getfield 7, 3) := by decide +kernel
theorem dX5_passes_14 : decode cX5_passes 14 = .ok (.iconst 0, 1) := by decide +kernel
theorem dX5_passes_15 : decode cX5_passes 15 = .ok (.iaload, 1) := by decide +kernel
theorem dX5_passes_16 : decode cX5_passes 16 = .ok (.if_icmp .ge 90, 3) := by decide +kernel
theorem dX5_passes_19 : decode cX5_passes 19 = .ok (.aload_n 0, 1) := by decide +kernel
theorem dX5_passes_20 : decode cX5_passes 20 = .ok (.iload_n 3, 1) := by decide +kernel
theorem dX5_passes_21 : decode cX5_passes 21 = .ok (.invokevirtual 96, 3) := by decide +kernel
theorem dX5_passes_24 : decode cX5_passes 24 = .ok (.ifCond .ne 76, 3) := by decide +kernel
theorem dX5_passes_27 : decode cX5_passes 27 = .ok (.aload_n 0, 1) := by decide +kernel
theorem dX5_passes_28 : decode cX5_passes 28 = .ok (.iload_n 3, 1) := by decide +kernel
theorem dX5_passes_29 : decode cX5_passes 29 = .ok (.iconst 1, 1) := by decide +kernel
theorem dX5_passes_30 : decode cX5_passes 30 = .ok (.invokevirtual 87, 3) := by decide +kernel
theorem dX5_passes_33 : decode cX5_passes 33 = .ok (.aload_n 0, 1) := by decide +kernel
theorem dX5_passes_34 : decode cX5_passes 34 = .ok (.iload_n 3, 1) := by decide +kernel
theorem dX5_passes_35 : decode cX5_passes 35 = .ok (.aload_n 0, 1) := by decide +kernel
theorem dX5_passes_36 : decode cX5_passes 36 = .ok (.iload_n 1, 1) := by decide +kernel
theorem dX5_passes_37 : decode cX5_passes 37 = .ok (.iconst 0, 1) := by decide +kernel
theorem dX5_passes_38 : decode cX5_passes 38 = .ok (.invokevirtual 72, 3) := by decide +kernel
theorem dX5_passes_41 : decode cX5_passes 41 = .ok (.invokevirtual 112, 3) := by decide +kernel
theorem dX5_passes_44 : decode cX5_passes 44 = .ok (.isub, 1) := by decide +kernel
theorem dX5_passes_45 : decode cX5_passes 45 = .ok (.istore 4, 2) := by decide +kernel
theorem dX5_passes_47 : decode cX5_passes 47 = .ok (.aload_n 0, 1) := by decide +kernel
theorem dX5_passes_48 : decode cX5_passes 48 = .ok (.getfield 7, 3) := by decide +kernel
theorem dX5_passes_51 : decode cX5_passes 51 = .ok (.iload_n 3, 1) := by decide +kernel
theorem dX5_passes_52 : decode cX5_passes 52 = .ok (.iconst 1, 1) := by decide +kernel
theorem dX5_passes_53 : decode cX5_passes 53 = .ok (.invokestatic 54, 3) := by decide +kernel
theorem dX5_passes_56 : decode cX5_passes 56 = .ok (.iload 4, 2) := by decide +kernel
theorem dX5_passes_58 : decode cX5_passes 58 = .ok (.ifCond .ge 7, 3) := by decide +kernel
theorem dX5_passes_61 : decode cX5_passes 61 = .ok (.iconst 0, 1) := by decide +kernel
theorem dX5_passes_62 : decode cX5_passes 62 = .ok (.goto 5, 3) := by decide +kernel
theorem dX5_passes_65 : decode cX5_passes 65 = .ok (.iload 4, 2) := by decide +kernel
theorem dX5_passes_67 : decode cX5_passes 67 = .ok (.iastore, 1) := by decide +kernel
theorem dX5_passes_68 : decode cX5_passes 68 = .ok (.aload_n 0, 1) := by decide +kernel
theorem dX5_passes_69 : decode cX5_passes 69 = .ok (.getfield 7, 3) := by decide +kernel
theorem dX5_passes_72 : decode cX5_passes 72 = .ok (.iload_n 3, 1) := by decide +kernel
theorem dX5_passes_73 : decode cX5_passes 73 = .ok (.iconst 2, 1) := by decide +kernel
theorem dX5_passes_74 : decode cX5_passes 74 = .ok (.invokestatic 54, 3) := by decide +kernel
theorem dX5_passes_77 : decode cX5_passes 77 = .ok (.aload_n 0, 1) := by decide +kernel
theorem dX5_passes_78 : decode cX5_passes 78 = .ok (.iload_n 3, 1) := by decide +kernel
theorem dX5_passes_79 : decode cX5_passes 79 = .ok (.iconst 2, 1) := by decide +kernel
theorem dX5_passes_80 : decode cX5_passes 80 = .ok (.invokevirtual 87, 3) := by decide +kernel
theorem dX5_passes_83 : decode cX5_passes 83 = .ok (.iconst 1, 1) := by decide +kernel
theorem dX5_passes_84 : decode cX5_passes 84 = .ok (.iadd, 1) := by decide +kernel
theorem dX5_passes_85 : decode cX5_passes 85 = .ok (.sipush 9999, 3) := by decide +kernel
theorem dX5_passes_88 : decode cX5_passes 88 = .ok (.invokestatic 115, 3) := by decide +kernel
theorem dX5_passes_91 : decode cX5_passes 91 = .ok (.iastore, 1) := by decide +kernel
theorem dX5_passes_92 : decode cX5_passes 92 = .ok (.iload_n 2, 1) := by decide +kernel
theorem dX5_passes_93 : decode cX5_passes 93 = .ok (.aload_n 0, 1) := by decide +kernel
theorem dX5_passes_94 : decode cX5_passes 94 = .ok (.iload_n 3, 1) := by decide +kernel
theorem dX5_passes_95 : decode cX5_passes 95 = .ok (.invokevirtual 102, 3) := by decide +kernel
theorem dX5_passes_98 : decode cX5_passes 98 = .ok (.iadd, 1) := by decide +kernel
theorem dX5_passes_99 : decode cX5_passes 99 = .ok (.istore_n 2, 1) := by decide +kernel
theorem dX5_passes_100 : decode cX5_passes 100 = .ok (.iinc 3 1, 3) := by decide +kernel
theorem dX5_passes_103 : decode cX5_passes 103 = .ok (.goto (-94), 3) := by decide +kernel
theorem dX5_passes_106 : decode cX5_passes 106 = .ok (.aload_n 0, 1) := by decide +kernel
theorem dX5_passes_107 : decode cX5_passes 107 = .ok (.getfield 7, 3) := by decide +kernel
theorem dX5_passes_110 : decode cX5_passes 110 = .ok (.iload_n 1, 1) := by decide +kernel
theorem dX5_passes_111 : decode cX5_passes 111 = .ok (.iconst 1, 1) := by decide +kernel
theorem dX5_passes_112 : decode cX5_passes 112 = .ok (.invokestatic 50, 3) := by decide +kernel
theorem dX5_passes_115 : decode cX5_passes 115 = .ok (.iload_n 2, 1) := by decide +kernel
theorem dX5_passes_116 : decode cX5_passes 116 = .ok (.bipush 99, 2) := by decide +kernel
theorem dX5_passes_118 : decode cX5_passes 118 = .ok (.invokestatic 115, 3) := by decide +kernel
theorem dX5_passes_121 : decode cX5_passes 121 = .ok (.iastore, 1) := by decide +kernel
theorem dX5_passes_122 : decode cX5_passes 122 = .ok (.aload_n 0, 1) := by decide +kernel
theorem dX5_passes_123 : decode cX5_passes 123 = .ok (.getfield 7, 3) := by decide +kernel
theorem dX5_passes_126 : decode cX5_passes 126 = .ok (.iconst 3, 1) := by decide +kernel
theorem dX5_passes_127 : decode cX5_passes 127 = .ok (.aload_n 0, 1) := by decide +kernel
theorem dX5_passes_128 : decode cX5_passes 128 = .ok (.iload_n 1, 1) := by decide +kernel
theorem dX5_passes_129 : decode cX5_passes 129 = .ok (.iconst 0, 1) := by decide +kernel
theorem dX5_passes_130 : decode cX5_passes 130 = .ok (.invokevirtual 72, 3) := by decide +kernel
theorem dX5_passes_133 : decode cX5_passes 133 = .ok (.iastore, 1) := by decide +kernel
theorem dX5_passes_134 : decode cX5_passes 134 = .ok (.return_, 1) := by decide +kernel
theorem dX5_nobodyPasses_0 : decode cX5_nobodyPasses 0 = .ok (.iconst 0, 1) := by decide +kernel
theorem dX5_nobodyPasses_1 : decode cX5_nobodyPasses 1 = .ok (.istore_n 1, 1) := by decide +kernel
theorem dX5_nobodyPasses_2 : decode cX5_nobodyPasses 2 = .ok (.iload_n 1, 1) := by decide +kernel
theorem dX5_nobodyPasses_3 : decode cX5_nobodyPasses 3 = .ok (.aload_n 0, 1) := by decide +kernel
theorem dX5_nobodyPasses_4 : decode cX5_nobodyPasses 4 = .ok (.getfield 7, 3) := by decide +kernel
theorem dX5_nobodyPasses_7 : decode cX5_nobodyPasses 7 = .ok (.iconst 0, 1) := by decide +kernel
theorem dX5_nobodyPasses_8 : decode cX5_nobodyPasses 8 = .ok (.iaload, 1) := by decide +kernel
theorem dX5_nobodyPasses_9 : decode cX5_nobodyPasses 9 = .ok (.if_icmp .ge 36, 3) := by decide +kernel
theorem dX5_nobodyPasses_12 : decode cX5_nobodyPasses 12 = .ok (.aload_n 0, 1) := by decide +kernel
theorem dX5_nobodyPasses_13 : decode cX5_nobodyPasses 13 = .ok (.getfield 7, 3) := by decide +kernel
theorem dX5_nobodyPasses_16 : decode cX5_nobodyPasses 16 = .ok (.iload_n 1, 1) := by decide +kernel
theorem dX5_nobodyPasses_17 : decode cX5_nobodyPasses 17 = .ok (.iconst 1, 1) := by decide +kernel
theorem dX5_nobodyPasses_18 : decode cX5_nobodyPasses 18 = .ok (.invokestatic 54, 3) := by decide +kernel
theorem dX5_nobodyPasses_21 : decode cX5_nobodyPasses 21 = .ok (.aload_n 0, 1) := by decide +kernel
theorem dX5_nobodyPasses_22 : decode cX5_nobodyPasses 22 = .ok (.iload_n 1, 1) := by decide +kernel
theorem dX5_nobodyPasses_23 : decode cX5_nobodyPasses 23 = .ok (.iconst 1, 1) := by decide +kernel
theorem dX5_nobodyPasses_24 : decode cX5_nobodyPasses 24 = .ok (.invokevirtual 87, 3) := by decide +kernel
theorem dX5_nobodyPasses_27 : decode cX5_nobodyPasses 27 = .ok (.aload_n 0, 1) := by decide +kernel
theorem dX5_nobodyPasses_28 : decode cX5_nobodyPasses 28 = .ok (.iload_n 1, 1) := by decide +kernel
theorem dX5_nobodyPasses_29 : decode cX5_nobodyPasses 29 = .ok (.invokevirtual 99, 3) := by decide +kernel
theorem dX5_nobodyPasses_32 : decode cX5_nobodyPasses 32 = .ok (.iadd, 1) := by decide +kernel
theorem dX5_nobodyPasses_33 : decode cX5_nobodyPasses 33 = .ok (.bipush 99, 2) := by decide +kernel
theorem dX5_nobodyPasses_35 : decode cX5_nobodyPasses 35 = .ok (.invokestatic 115, 3) := by decide +kernel
theorem dX5_nobodyPasses_38 : decode cX5_nobodyPasses 38 = .ok (.iastore, 1) := by decide +kernel
theorem dX5_nobodyPasses_39 : decode cX5_nobodyPasses 39 = .ok (.iinc 1 1, 3) := by decide +kernel
theorem dX5_nobodyPasses_42 : decode cX5_nobodyPasses 42 = .ok (.goto (-40), 3) := by decide +kernel
theorem dX5_nobodyPasses_45 : decode cX5_nobodyPasses 45 = .ok (.aload_n 0, 1) := by decide +kernel
theorem dX5_nobodyPasses_46 : decode cX5_nobodyPasses 46 = .ok (.getfield 7, 3) := by decide +kernel
theorem dX5_nobodyPasses_49 : decode cX5_nobodyPasses 49 = .ok (.iconst 3, 1) := by decide +kernel
theorem dX5_nobodyPasses_50 : decode cX5_nobodyPasses 50 = .ok (.iconst (-1), 1) := by decide +kernel
theorem dX5_nobodyPasses_51 : decode cX5_nobodyPasses 51 = .ok (.iastore, 1) := by decide +kernel
theorem dX5_nobodyPasses_52 : decode cX5_nobodyPasses 52 = .ok (.return_, 1) := by decide +kernel
theorem dX5_minute_0 : decode cX5_minute 0 = .ok (.aload_n 0, 1) := by decide +kernel
theorem dX5_minute_1 : decode cX5_minute 1 = .ok (.getfield 7, 3) := by decide +kernel
theorem dX5_minute_4 : decode cX5_minute 4 = .ok (.iconst 1, 1) := by decide +kernel
theorem dX5_minute_5 : decode cX5_minute 5 = .ok (.iaload, 1) := by decide +kernel
theorem dX5_minute_6 : decode cX5_minute 6 = .ok (.ifCond .le 20, 3) := by decide +kernel
theorem dX5_minute_9 : decode cX5_minute 9 = .ok (.aload_n 0, 1) := by decide +kernel
theorem dX5_minute_10 : decode cX5_minute 10 = .ok (.aload_n 0, 1) := by decide +kernel
theorem dX5_minute_11 : decode cX5_minute 11 = .ok (.getfield 7, 3) := by decide +kernel
theorem dX5_minute_14 : decode cX5_minute 14 = .ok (.iconst 4, 1) := by decide +kernel
theorem dX5_minute_15 : decode cX5_minute 15 = .ok (.iaload, 1) := by decide +kernel
theorem dX5_minute_16 : decode cX5_minute 16 = .ok (.invokevirtual 118, 3) := by decide +kernel
theorem dX5_minute_19 : decode cX5_minute 19 = .ok (.ifCond .eq 7, 3) := by decide +kernel
theorem dX5_minute_22 : decode cX5_minute 22 = .ok (.iconst 1, 1) := by decide +kernel
theorem dX5_minute_23 : decode cX5_minute 23 = .ok (.goto 4, 3) := by decide +kernel
theorem dX5_minute_26 : decode cX5_minute 26 = .ok (.iconst 0, 1) := by decide +kernel
theorem dX5_minute_27 : decode cX5_minute 27 = .ok (.istore_n 1, 1) := by decide +kernel
theorem dX5_minute_28 : decode cX5_minute 28 = .ok (.iload_n 1, 1) := by decide +kernel
theorem dX5_minute_29 : decode cX5_minute 29 = .ok (.ifCond .eq 16, 3) := by decide +kernel
theorem dX5_minute_32 : decode cX5_minute 32 = .ok (.aload_n 0, 1) := by decide +kernel
theorem dX5_minute_33 : decode cX5_minute 33 = .ok (.aload_n 0, 1) := by decide +kernel
theorem dX5_minute_34 : decode cX5_minute 34 = .ok (.getfield 7, 3) := by decide +kernel
theorem dX5_minute_37 : decode cX5_minute 37 = .ok (.iconst 4, 1) := by decide +kernel
theorem dX5_minute_38 : decode cX5_minute 38 = .ok (.iaload, 1) := by decide +kernel
theorem dX5_minute_39 : decode cX5_minute 39 = .ok (.invokevirtual 121, 3) := by decide +kernel
theorem dX5_minute_42 : decode cX5_minute 42 = .ok (.goto 7, 3) := by decide +kernel
theorem dX5_minute_45 : decode cX5_minute 45 = .ok (.aload_n 0, 1) := by decide +kernel
theorem dX5_minute_46 : decode cX5_minute 46 = .ok (.invokevirtual 125, 3) := by decide +kernel
theorem dX5_minute_49 : decode cX5_minute 49 = .ok (.aload_n 0, 1) := by decide +kernel
theorem dX5_minute_50 : decode cX5_minute 50 = .ok (.getfield 7, 3) := by decide +kernel
theorem dX5_minute_53 : decode cX5_minute 53 = .ok (.iconst 4, 1) := by decide +kernel
theorem dX5_minute_54 : decode cX5_minute 54 = .ok (.aload_n 0, 1) := by decide +kernel
theorem dX5_minute_55 : decode cX5_minute 55 = .ok (.getfield 7, 3) := by decide +kernel
theorem dX5_minute_58 : decode cX5_minute 58 = .ok (.iconst 4, 1) := by decide +kernel
theorem dX5_minute_59 : decode cX5_minute 59 = .ok (.iaload, 1) := by decide +kernel
theorem dX5_minute_60 : decode cX5_minute 60 = .ok (.iconst 1, 1) := by decide +kernel
theorem dX5_minute_61 : decode cX5_minute 61 = .ok (.iadd, 1) := by decide +kernel
theorem dX5_minute_62 : decode cX5_minute 62 = .ok (.aload_n 0, 1) := by decide +kernel
theorem dX5_minute_63 : decode cX5_minute 63 = .ok (.getfield 7, 3) := by decide +kernel
theorem dX5_minute_66 : decode cX5_minute 66 = .ok (.iconst 1, 1) := by decide +kernel
theorem dX5_minute_67 : decode cX5_minute 67 = .ok (.iaload, 1) := by decide +kernel
theorem dX5_minute_68 : decode cX5_minute 68 = .ok (.if_icmp .ge 14, 3) := by decide +kernel
theorem dX5_minute_71 : decode cX5_minute 71 = .ok (.aload_n 0, 1) := by decide +kernel
theorem dX5_minute_72 : decode cX5_minute 72 = .ok (.getfield 7, 3) := by decide +kernel
theorem dX5_minute_75 : decode cX5_minute 75 = .ok (.iconst 4, 1) := by decide +kernel
theorem dX5_minute_76 : decode cX5_minute 76 = .ok (.iaload, 1) := by decide +kernel
theorem dX5_minute_77 : decode cX5_minute 77 = .ok (.iconst 1, 1) := by decide +kernel
theorem dX5_minute_78 : decode cX5_minute 78 = .ok (.iadd, 1) := by decide +kernel
theorem dX5_minute_79 : decode cX5_minute 79 = .ok (.goto 4, 3) := by decide +kernel
theorem dX5_minute_82 : decode cX5_minute 82 = .ok (.iconst 0, 1) := by decide +kernel
theorem dX5_minute_83 : decode cX5_minute 83 = .ok (.iastore, 1) := by decide +kernel
theorem dX5_minute_84 : decode cX5_minute 84 = .ok (.aload_n 0, 1) := by decide +kernel
theorem dX5_minute_85 : decode cX5_minute 85 = .ok (.getfield 7, 3) := by decide +kernel
theorem dX5_minute_88 : decode cX5_minute 88 = .ok (.iconst 2, 1) := by decide +kernel
theorem dX5_minute_89 : decode cX5_minute 89 = .ok (.dup2, 1) := by decide +kernel
theorem dX5_minute_90 : decode cX5_minute 90 = .ok (.iaload, 1) := by decide +kernel
theorem dX5_minute_91 : decode cX5_minute 91 = .ok (.iconst 1, 1) := by decide +kernel
theorem dX5_minute_92 : decode cX5_minute 92 = .ok (.iadd, 1) := by decide +kernel
theorem dX5_minute_93 : decode cX5_minute 93 = .ok (.iastore, 1) := by decide +kernel
theorem dX5_minute_94 : decode cX5_minute 94 = .ok (.return_, 1) := by decide +kernel
theorem dX5_minutesGo_0 : decode cX5_minutesGo 0 = .ok (.iconst 0, 1) := by decide +kernel
theorem dX5_minutesGo_1 : decode cX5_minutesGo 1 = .ok (.istore_n 2, 1) := by decide +kernel
theorem dX5_minutesGo_2 : decode cX5_minutesGo 2 = .ok (.iload_n 2, 1) := by decide +kernel
theorem dX5_minutesGo_3 : decode cX5_minutesGo 3 = .ok (.iload_n 1, 1) := by decide +kernel
theorem dX5_minutesGo_4 : decode cX5_minutesGo 4 = .ok (.if_icmp .ge 13, 3) := by decide +kernel
theorem dX5_minutesGo_7 : decode cX5_minutesGo 7 = .ok (.aload_n 0, 1) := by decide +kernel
theorem dX5_minutesGo_8 : decode cX5_minutesGo 8 = .ok (.invokevirtual 128, 3) := by decide +kernel
theorem dX5_minutesGo_11 : decode cX5_minutesGo 11 = .ok (.iinc 2 1, 3) := by decide +kernel
theorem dX5_minutesGo_14 : decode cX5_minutesGo 14 = .ok (.goto (-12), 3) := by decide +kernel
theorem dX5_minutesGo_17 : decode cX5_minutesGo 17 = .ok (.return_, 1) := by decide +kernel
theorem dX5_asleep_0 : decode cX5_asleep 0 = .ok (.iconst 0, 1) := by decide +kernel
theorem dX5_asleep_1 : decode cX5_asleep 1 = .ok (.istore_n 1, 1) := by decide +kernel
theorem dX5_asleep_2 : decode cX5_asleep 2 = .ok (.iconst 0, 1) := by decide +kernel
theorem dX5_asleep_3 : decode cX5_asleep 3 = .ok (.istore_n 2, 1) := by decide +kernel
theorem dX5_asleep_4 : decode cX5_asleep 4 = .ok (.iload_n 2, 1) := by decide +kernel
theorem dX5_asleep_5 : decode cX5_asleep 5 = .ok (.aload_n 0, 1) := by decide +kernel
theorem dX5_asleep_6 : decode cX5_asleep 6 = .ok (.getfield 7, 3) := by decide +kernel
theorem dX5_asleep_9 : decode cX5_asleep 9 = .ok (.iconst 0, 1) := by decide +kernel
theorem dX5_asleep_10 : decode cX5_asleep 10 = .ok (.iaload, 1) := by decide +kernel
theorem dX5_asleep_11 : decode cX5_asleep 11 = .ok (.if_icmp .ge 27, 3) := by decide +kernel
theorem dX5_asleep_14 : decode cX5_asleep 14 = .ok (.iload_n 1, 1) := by decide +kernel
theorem dX5_asleep_15 : decode cX5_asleep 15 = .ok (.aload_n 0, 1) := by decide +kernel
theorem dX5_asleep_16 : decode cX5_asleep 16 = .ok (.iload_n 2, 1) := by decide +kernel
theorem dX5_asleep_17 : decode cX5_asleep 17 = .ok (.invokevirtual 96, 3) := by decide +kernel
theorem dX5_asleep_20 : decode cX5_asleep 20 = .ok (.ifCond .eq 9, 3) := by decide +kernel
theorem dX5_asleep_23 : decode cX5_asleep 23 = .ok (.iconst 1, 1) := by decide +kernel
theorem dX5_asleep_24 : decode cX5_asleep 24 = .ok (.iload_n 2, 1) := by decide +kernel
theorem dX5_asleep_25 : decode cX5_asleep 25 = .ok (.ishl, 1) := by decide +kernel
theorem dX5_asleep_26 : decode cX5_asleep 26 = .ok (.goto 4, 3) := by decide +kernel
theorem dX5_asleep_29 : decode cX5_asleep 29 = .ok (.iconst 0, 1) := by decide +kernel
theorem dX5_asleep_30 : decode cX5_asleep 30 = .ok (.ior, 1) := by decide +kernel
theorem dX5_asleep_31 : decode cX5_asleep 31 = .ok (.istore_n 1, 1) := by decide +kernel
theorem dX5_asleep_32 : decode cX5_asleep 32 = .ok (.iinc 2 1, 3) := by decide +kernel
theorem dX5_asleep_35 : decode cX5_asleep 35 = .ok (.goto (-31), 3) := by decide +kernel
theorem dX5_asleep_38 : decode cX5_asleep 38 = .ok (.iload_n 1, 1) := by decide +kernel
theorem dX5_asleep_39 : decode cX5_asleep 39 = .ok (.ireturn, 1) := by decide +kernel
theorem dX5_minutes_0 : decode cX5_minutes 0 = .ok (.iload_n 1, 1) := by decide +kernel
theorem dX5_minutes_1 : decode cX5_minutes 1 = .ok (.i2l, 1) := by decide +kernel
theorem dX5_minutes_2 : decode cX5_minutes 2 = .ok (.lconst 1, 1) := by decide +kernel
theorem dX5_minutes_3 : decode cX5_minutes 3 = .ok (.ldc2_w 131, 3) := by decide +kernel
theorem dX5_minutes_6 : decode cX5_minutes 6 = .ok (.invokestatic 42, 3) := by decide +kernel
theorem dX5_minutes_9 : decode cX5_minutes 9 = .ok (.ifCond .ne 10, 3) := by decide +kernel
theorem dX5_minutes_12 : decode cX5_minutes 12 = .ok (.aload_n 0, 1) := by decide +kernel
theorem dX5_minutes_13 : decode cX5_minutes 13 = .ok (.ldc 41, 2) := by decide +kernel
theorem dX5_minutes_15 : decode cX5_minutes 15 = .ok (.invokevirtual 61, 3) := by decide +kernel
theorem dX5_minutes_18 : decode cX5_minutes 18 = .ok (.ireturn, 1) := by decide +kernel
theorem dX5_minutes_19 : decode cX5_minutes 19 = .ok (.aload_n 0, 1) := by decide +kernel
theorem dX5_minutes_20 : decode cX5_minutes 20 = .ok (.getfield 7, 3) := by decide +kernel
theorem dX5_minutes_23 : decode cX5_minutes 23 = .ok (.iconst 2, 1) := by decide +kernel
theorem dX5_minutes_24 : decode cX5_minutes 24 = .ok (.iaload, 1) := by decide +kernel
theorem dX5_minutes_25 : decode cX5_minutes 25 = .ok (.iload_n 1, 1) := by decide +kernel
theorem dX5_minutes_26 : decode cX5_minutes 26 = .ok (.iadd, 1) := by decide +kernel
theorem dX5_minutes_27 : decode cX5_minutes 27 = .ok (.ldc 133, 2) := by decide +kernel
theorem dX5_minutes_29 : decode cX5_minutes 29 = .ok (.if_icmp .le 10, 3) := by decide +kernel
theorem dX5_minutes_32 : decode cX5_minutes 32 = .ok (.aload_n 0, 1) := by decide +kernel
theorem dX5_minutes_33 : decode cX5_minutes 33 = .ok (.ldc 134, 2) := by decide +kernel
theorem dX5_minutes_35 : decode cX5_minutes 35 = .ok (.invokevirtual 61, 3) := by decide +kernel
theorem dX5_minutes_38 : decode cX5_minutes 38 = .ok (.ireturn, 1) := by decide +kernel
theorem dX5_minutes_39 : decode cX5_minutes 39 = .ok (.aload_n 0, 1) := by decide +kernel
theorem dX5_minutes_40 : decode cX5_minutes 40 = .ok (.iload_n 1, 1) := by decide +kernel
theorem dX5_minutes_41 : decode cX5_minutes 41 = .ok (.invokevirtual 135, 3) := by decide +kernel
theorem dX5_minutes_44 : decode cX5_minutes 44 = .ok (.aload_n 0, 1) := by decide +kernel
theorem dX5_minutes_45 : decode cX5_minutes 45 = .ok (.invokevirtual 138, 3) := by decide +kernel
theorem dX5_minutes_48 : decode cX5_minutes 48 = .ok (.ireturn, 1) := by decide +kernel
theorem dX5_together_0 : decode cX5_together 0 = .ok (.iconst 0, 1) := by decide +kernel
theorem dX5_together_1 : decode cX5_together 1 = .ok (.istore_n 2, 1) := by decide +kernel
theorem dX5_together_2 : decode cX5_together 2 = .ok (.iconst 0, 1) := by decide +kernel
theorem dX5_together_3 : decode cX5_together 3 = .ok (.istore_n 3, 1) := by decide +kernel
theorem dX5_together_4 : decode cX5_together 4 = .ok (.iload_n 3, 1) := by decide +kernel
theorem dX5_together_5 : decode cX5_together 5 = .ok (.aload_n 0, 1) := by decide +kernel
theorem dX5_together_6 : decode cX5_together 6 = .ok (.getfield 7, 3) := by decide +kernel
theorem dX5_together_9 : decode cX5_together 9 = .ok (.iconst 0, 1) := by decide +kernel
theorem dX5_together_10 : decode cX5_together 10 = .ok (.iaload, 1) := by decide +kernel
theorem dX5_together_11 : decode cX5_together 11 = .ok (.if_icmp .ge 18, 3) := by decide +kernel
theorem dX5_together_14 : decode cX5_together 14 = .ok (.iload_n 2, 1) := by decide +kernel
theorem dX5_together_15 : decode cX5_together 15 = .ok (.aload_n 0, 1) := by decide +kernel
theorem dX5_together_16 : decode cX5_together 16 = .ok (.iload_n 3, 1) := by decide +kernel
theorem dX5_together_17 : decode cX5_together 17 = .ok (.iload_n 1, 1) := by decide +kernel
theorem dX5_together_18 : decode cX5_together 18 = .ok (.invokevirtual 87, 3) := by decide +kernel
theorem dX5_together_21 : decode cX5_together 21 = .ok (.iadd, 1) := by decide +kernel
theorem dX5_together_22 : decode cX5_together 22 = .ok (.istore_n 2, 1) := by decide +kernel
theorem dX5_together_23 : decode cX5_together 23 = .ok (.iinc 3 1, 3) := by decide +kernel
theorem dX5_together_26 : decode cX5_together 26 = .ok (.goto (-22), 3) := by decide +kernel
theorem dX5_together_29 : decode cX5_together 29 = .ok (.iload_n 2, 1) := by decide +kernel
theorem dX5_together_30 : decode cX5_together 30 = .ok (.ireturn, 1) := by decide +kernel
theorem dX5_wearOf_0 : decode cX5_wearOf 0 = .ok (.iconst 0, 1) := by decide +kernel
theorem dX5_wearOf_1 : decode cX5_wearOf 1 = .ok (.istore_n 2, 1) := by decide +kernel
theorem dX5_wearOf_2 : decode cX5_wearOf 2 = .ok (.iconst 0, 1) := by decide +kernel
theorem dX5_wearOf_3 : decode cX5_wearOf 3 = .ok (.istore_n 3, 1) := by decide +kernel
theorem dX5_wearOf_4 : decode cX5_wearOf 4 = .ok (.iload_n 3, 1) := by decide +kernel
theorem dX5_wearOf_5 : decode cX5_wearOf 5 = .ok (.aload_n 0, 1) := by decide +kernel
theorem dX5_wearOf_6 : decode cX5_wearOf 6 = .ok (.getfield 7, 3) := by decide +kernel
theorem dX5_wearOf_9 : decode cX5_wearOf 9 = .ok (.iconst 1, 1) := by decide +kernel
theorem dX5_wearOf_10 : decode cX5_wearOf 10 = .ok (.iaload, 1) := by decide +kernel
theorem dX5_wearOf_11 : decode cX5_wearOf 11 = .ok (.if_icmp .ge 31, 3) := by decide +kernel
theorem dX5_wearOf_14 : decode cX5_wearOf 14 = .ok (.iload_n 2, 1) := by decide +kernel
theorem dX5_wearOf_15 : decode cX5_wearOf 15 = .ok (.iload_n 1, 1) := by decide +kernel
theorem dX5_wearOf_16 : decode cX5_wearOf 16 = .ok (.iload_n 3, 1) := by decide +kernel
theorem dX5_wearOf_17 : decode cX5_wearOf 17 = .ok (.ishr, 1) := by decide +kernel
theorem dX5_wearOf_18 : decode cX5_wearOf 18 = .ok (.iconst 1, 1) := by decide +kernel
theorem dX5_wearOf_19 : decode cX5_wearOf 19 = .ok (.iand, 1) := by decide +kernel
theorem dX5_wearOf_20 : decode cX5_wearOf 20 = .ok (.iconst 1, 1) := by decide +kernel
theorem dX5_wearOf_21 : decode cX5_wearOf 21 = .ok (.if_icmp .ne 12, 3) := by decide +kernel
theorem dX5_wearOf_24 : decode cX5_wearOf 24 = .ok (.aload_n 0, 1) := by decide +kernel
theorem dX5_wearOf_25 : decode cX5_wearOf 25 = .ok (.iload_n 3, 1) := by decide +kernel
theorem dX5_wearOf_26 : decode cX5_wearOf 26 = .ok (.iconst 1, 1) := by decide +kernel
theorem dX5_wearOf_27 : decode cX5_wearOf 27 = .ok (.invokevirtual 72, 3) := by decide +kernel
theorem dX5_wearOf_30 : decode cX5_wearOf 30 = .ok (.goto 4, 3) := by decide +kernel
theorem dX5_wearOf_33 : decode cX5_wearOf 33 = .ok (.iconst 0, 1) := by decide +kernel
theorem dX5_wearOf_34 : decode cX5_wearOf 34 = .ok (.iadd, 1) := by decide +kernel
theorem dX5_wearOf_35 : decode cX5_wearOf 35 = .ok (.istore_n 2, 1) := by decide +kernel
theorem dX5_wearOf_36 : decode cX5_wearOf 36 = .ok (.iinc 3 1, 3) := by decide +kernel
theorem dX5_wearOf_39 : decode cX5_wearOf 39 = .ok (.goto (-35), 3) := by decide +kernel
theorem dX5_wearOf_42 : decode cX5_wearOf 42 = .ok (.iload_n 2, 1) := by decide +kernel
theorem dX5_wearOf_43 : decode cX5_wearOf 43 = .ok (.ireturn, 1) := by decide +kernel
theorem dX5_passing_0 : decode cX5_passing 0 = .ok (.iconst 0, 1) := by decide +kernel
theorem dX5_passing_1 : decode cX5_passing 1 = .ok (.istore_n 1, 1) := by decide +kernel
theorem dX5_passing_2 : decode cX5_passing 2 = .ok (.iconst 0, 1) := by decide +kernel
theorem dX5_passing_3 : decode cX5_passing 3 = .ok (.istore_n 2, 1) := by decide +kernel
theorem dX5_passing_4 : decode cX5_passing 4 = .ok (.iload_n 2, 1) := by decide +kernel
theorem dX5_passing_5 : decode cX5_passing 5 = .ok (.aload_n 0, 1) := by decide +kernel
theorem dX5_passing_6 : decode cX5_passing 6 = .ok (.getfield 7, 3) := by decide +kernel
theorem dX5_passing_9 : decode cX5_passing 9 = .ok (.iconst 1, 1) := by decide +kernel
theorem dX5_passing_10 : decode cX5_passing 10 = .ok (.iaload, 1) := by decide +kernel
theorem dX5_passing_11 : decode cX5_passing 11 = .ok (.if_icmp .ge 27, 3) := by decide +kernel
theorem dX5_passing_14 : decode cX5_passing 14 = .ok (.iload_n 1, 1) := by decide +kernel
theorem dX5_passing_15 : decode cX5_passing 15 = .ok (.aload_n 0, 1) := by decide +kernel
theorem dX5_passing_16 : decode cX5_passing 16 = .ok (.iload_n 2, 1) := by decide +kernel
theorem dX5_passing_17 : decode cX5_passing 17 = .ok (.invokevirtual 118, 3) := by decide +kernel
theorem dX5_passing_20 : decode cX5_passing 20 = .ok (.ifCond .eq 9, 3) := by decide +kernel
theorem dX5_passing_23 : decode cX5_passing 23 = .ok (.iconst 1, 1) := by decide +kernel
theorem dX5_passing_24 : decode cX5_passing 24 = .ok (.iload_n 2, 1) := by decide +kernel
theorem dX5_passing_25 : decode cX5_passing 25 = .ok (.ishl, 1) := by decide +kernel
theorem dX5_passing_26 : decode cX5_passing 26 = .ok (.goto 4, 3) := by decide +kernel
theorem dX5_passing_29 : decode cX5_passing 29 = .ok (.iconst 0, 1) := by decide +kernel
theorem dX5_passing_30 : decode cX5_passing 30 = .ok (.ior, 1) := by decide +kernel
theorem dX5_passing_31 : decode cX5_passing 31 = .ok (.istore_n 1, 1) := by decide +kernel
theorem dX5_passing_32 : decode cX5_passing 32 = .ok (.iinc 2 1, 3) := by decide +kernel
theorem dX5_passing_35 : decode cX5_passing 35 = .ok (.goto (-31), 3) := by decide +kernel
theorem dX5_passing_38 : decode cX5_passing 38 = .ok (.iload_n 1, 1) := by decide +kernel
theorem dX5_passing_39 : decode cX5_passing 39 = .ok (.ireturn, 1) := by decide +kernel
theorem dX5_now_0 : decode cX5_now 0 = .ok (.iload_n 1, 1) := by decide +kernel
theorem dX5_now_1 : decode cX5_now 1 = .ok (.tableswitch 108 0 6 #[43, 50, 57, 77, 82, 88, 103], 43) := by decide +kernel
theorem dX5_now_44 : decode cX5_now 44 = .ok (.aload_n 0, 1) := by decide +kernel
theorem dX5_now_45 : decode cX5_now 45 = .ok (.getfield 7, 3) := by decide +kernel
theorem dX5_now_48 : decode cX5_now 48 = .ok (.iconst 2, 1) := by decide +kernel
theorem dX5_now_49 : decode cX5_now 49 = .ok (.iaload, 1) := by decide +kernel
theorem dX5_now_50 : decode cX5_now 50 = .ok (.ireturn, 1) := by decide +kernel
theorem dX5_now_51 : decode cX5_now 51 = .ok (.aload_n 0, 1) := by decide +kernel
theorem dX5_now_52 : decode cX5_now 52 = .ok (.getfield 7, 3) := by decide +kernel
theorem dX5_now_55 : decode cX5_now 55 = .ok (.iconst 3, 1) := by decide +kernel
theorem dX5_now_56 : decode cX5_now 56 = .ok (.iaload, 1) := by decide +kernel
theorem dX5_now_57 : decode cX5_now 57 = .ok (.ireturn, 1) := by decide +kernel
theorem dX5_now_58 : decode cX5_now 58 = .ok (.aload_n 0, 1) := by decide +kernel
theorem dX5_now_59 : decode cX5_now 59 = .ok (.getfield 7, 3) := by decide +kernel
theorem dX5_now_62 : decode cX5_now 62 = .ok (.iconst 1, 1) := by decide +kernel
theorem dX5_now_63 : decode cX5_now 63 = .ok (.iaload, 1) := by decide +kernel
theorem dX5_now_64 : decode cX5_now 64 = .ok (.ifCond .ne 7, 3) := by decide +kernel
theorem dX5_now_67 : decode cX5_now 67 = .ok (.iconst (-1), 1) := by decide +kernel
theorem dX5_now_68 : decode cX5_now 68 = .ok (.goto 9, 3) := by decide +kernel
theorem dX5_now_71 : decode cX5_now 71 = .ok (.aload_n 0, 1) := by decide +kernel
theorem dX5_now_72 : decode cX5_now 72 = .ok (.getfield 7, 3) := by decide +kernel
theorem dX5_now_75 : decode cX5_now 75 = .ok (.iconst 4, 1) := by decide +kernel
theorem dX5_now_76 : decode cX5_now 76 = .ok (.iaload, 1) := by decide +kernel
theorem dX5_now_77 : decode cX5_now 77 = .ok (.ireturn, 1) := by decide +kernel
theorem dX5_now_78 : decode cX5_now 78 = .ok (.aload_n 0, 1) := by decide +kernel
theorem dX5_now_79 : decode cX5_now 79 = .ok (.invokevirtual 138, 3) := by decide +kernel
theorem dX5_now_82 : decode cX5_now 82 = .ok (.ireturn, 1) := by decide +kernel
theorem dX5_now_83 : decode cX5_now 83 = .ok (.aload_n 0, 1) := by decide +kernel
theorem dX5_now_84 : decode cX5_now 84 = .ok (.iconst 1, 1) := by decide +kernel
theorem dX5_now_85 : decode cX5_now 85 = .ok (.invokevirtual 142, 3) := by decide +kernel
theorem dX5_now_88 : decode cX5_now 88 = .ok (.ireturn, 1) := by decide +kernel
theorem dX5_now_89 : decode cX5_now 89 = .ok (.aload_n 0, 1) := by decide +kernel
theorem dX5_now_90 : decode cX5_now 90 = .ok (.iconst 1, 1) := by decide +kernel
theorem dX5_now_91 : decode cX5_now 91 = .ok (.aload_n 0, 1) := by decide +kernel
theorem dX5_now_92 : decode cX5_now 92 = .ok (.getfield 7, 3) := by decide +kernel
theorem dX5_now_95 : decode cX5_now 95 = .ok (.iconst 1, 1) := by decide +kernel
theorem dX5_now_96 : decode cX5_now 96 = .ok (.iaload, 1) := by decide +kernel
theorem dX5_now_97 : decode cX5_now 97 = .ok (.ishl, 1) := by decide +kernel
theorem dX5_now_98 : decode cX5_now 98 = .ok (.iconst 1, 1) := by decide +kernel
theorem dX5_now_99 : decode cX5_now 99 = .ok (.isub, 1) := by decide +kernel
theorem dX5_now_100 : decode cX5_now 100 = .ok (.invokevirtual 145, 3) := by decide +kernel
theorem dX5_now_103 : decode cX5_now 103 = .ok (.ireturn, 1) := by decide +kernel
theorem dX5_now_104 : decode cX5_now 104 = .ok (.aload_n 0, 1) := by decide +kernel
theorem dX5_now_105 : decode cX5_now 105 = .ok (.invokevirtual 148, 3) := by decide +kernel
theorem dX5_now_108 : decode cX5_now 108 = .ok (.ireturn, 1) := by decide +kernel
theorem dX5_now_109 : decode cX5_now 109 = .ok (.aload_n 0, 1) := by decide +kernel
theorem dX5_now_110 : decode cX5_now 110 = .ok (.ldc 41, 2) := by decide +kernel
theorem dX5_now_112 : decode cX5_now 112 = .ok (.invokevirtual 61, 3) := by decide +kernel
theorem dX5_now_115 : decode cX5_now 115 = .ok (.ireturn, 1) := by decide +kernel
theorem dX5_behind_0 : decode cX5_behind 0 = .ok (.aload_n 0, 1) := by decide +kernel
theorem dX5_behind_1 : decode cX5_behind 1 = .ok (.invokevirtual 151, 3) := by decide +kernel
theorem dX5_behind_4 : decode cX5_behind 4 = .ok (.aload_n 0, 1) := by decide +kernel
theorem dX5_behind_5 : decode cX5_behind 5 = .ok (.iload_n 2, 1) := by decide +kernel
theorem dX5_behind_6 : decode cX5_behind 6 = .ok (.invokevirtual 135, 3) := by decide +kernel
theorem dX5_behind_9 : decode cX5_behind 9 = .ok (.aload_n 0, 1) := by decide +kernel
theorem dX5_behind_10 : decode cX5_behind 10 = .ok (.aload_n 0, 1) := by decide +kernel
theorem dX5_behind_11 : decode cX5_behind 11 = .ok (.getfield 7, 3) := by decide +kernel
theorem dX5_behind_14 : decode cX5_behind 14 = .ok (.iload_n 1, 1) := by decide +kernel
theorem dX5_behind_15 : decode cX5_behind 15 = .ok (.iaload, 1) := by decide +kernel
theorem dX5_behind_16 : decode cX5_behind 16 = .ok (.invokevirtual 154, 3) := by decide +kernel
theorem dX5_behind_19 : decode cX5_behind 19 = .ok (.ireturn, 1) := by decide +kernel
theorem dX5_on_0 : decode cX5_on 0 = .ok (.aload_n 0, 1) := by decide +kernel
theorem dX5_on_1 : decode cX5_on 1 = .ok (.iload_n 1, 1) := by decide +kernel
theorem dX5_on_2 : decode cX5_on 2 = .ok (.invokevirtual 93, 3) := by decide +kernel
theorem dX5_on_5 : decode cX5_on 5 = .ok (.ifCond .eq 25, 3) := by decide +kernel
theorem dX5_on_8 : decode cX5_on 8 = .ok (.iload_n 2, 1) := by decide +kernel
theorem dX5_on_9 : decode cX5_on 9 = .ok (.i2l, 1) := by decide +kernel
theorem dX5_on_10 : decode cX5_on 10 = .ok (.lconst 0, 1) := by decide +kernel
theorem dX5_on_11 : decode cX5_on 11 = .ok (.ldc2_w 131, 3) := by decide +kernel
theorem dX5_on_14 : decode cX5_on 14 = .ok (.invokestatic 42, 3) := by decide +kernel
theorem dX5_on_17 : decode cX5_on 17 = .ok (.ifCond .eq 13, 3) := by decide +kernel
theorem dX5_on_20 : decode cX5_on 20 = .ok (.iload_n 3, 1) := by decide +kernel
theorem dX5_on_21 : decode cX5_on 21 = .ok (.i2l, 1) := by decide +kernel
theorem dX5_on_22 : decode cX5_on 22 = .ok (.lconst 0, 1) := by decide +kernel
theorem dX5_on_23 : decode cX5_on 23 = .ok (.lconst 1, 1) := by decide +kernel
theorem dX5_on_24 : decode cX5_on 24 = .ok (.invokestatic 42, 3) := by decide +kernel
theorem dX5_on_27 : decode cX5_on 27 = .ok (.ifCond .ne 10, 3) := by decide +kernel
theorem dX5_on_30 : decode cX5_on 30 = .ok (.aload_n 0, 1) := by decide +kernel
theorem dX5_on_31 : decode cX5_on 31 = .ok (.ldc 41, 2) := by decide +kernel
theorem dX5_on_33 : decode cX5_on 33 = .ok (.invokevirtual 61, 3) := by decide +kernel
theorem dX5_on_36 : decode cX5_on 36 = .ok (.ireturn, 1) := by decide +kernel
theorem dX5_on_37 : decode cX5_on 37 = .ok (.aload_n 0, 1) := by decide +kernel
theorem dX5_on_38 : decode cX5_on 38 = .ok (.iload_n 1, 1) := by decide +kernel
theorem dX5_on_39 : decode cX5_on 39 = .ok (.iload_n 3, 1) := by decide +kernel
theorem dX5_on_40 : decode cX5_on 40 = .ok (.ifCond .ne 7, 3) := by decide +kernel
theorem dX5_on_43 : decode cX5_on 43 = .ok (.iconst 1, 1) := by decide +kernel
theorem dX5_on_44 : decode cX5_on 44 = .ok (.goto 4, 3) := by decide +kernel
theorem dX5_on_47 : decode cX5_on 47 = .ok (.iconst 2, 1) := by decide +kernel
theorem dX5_on_48 : decode cX5_on 48 = .ok (.invokestatic 54, 3) := by decide +kernel
theorem dX5_on_51 : decode cX5_on 51 = .ok (.iload_n 2, 1) := by decide +kernel
theorem dX5_on_52 : decode cX5_on 52 = .ok (.invokevirtual 157, 3) := by decide +kernel
theorem dX5_on_55 : decode cX5_on 55 = .ok (.ireturn, 1) := by decide +kernel
theorem dX5_worn_0 : decode cX5_worn 0 = .ok (.aload_n 0, 1) := by decide +kernel
theorem dX5_worn_1 : decode cX5_worn 1 = .ok (.iload_n 1, 1) := by decide +kernel
theorem dX5_worn_2 : decode cX5_worn 2 = .ok (.invokevirtual 69, 3) := by decide +kernel
theorem dX5_worn_5 : decode cX5_worn 5 = .ok (.ifCond .eq 28, 3) := by decide +kernel
theorem dX5_worn_8 : decode cX5_worn 8 = .ok (.iload_n 2, 1) := by decide +kernel
theorem dX5_worn_9 : decode cX5_worn 9 = .ok (.i2l, 1) := by decide +kernel
theorem dX5_worn_10 : decode cX5_worn 10 = .ok (.lconst 0, 1) := by decide +kernel
theorem dX5_worn_11 : decode cX5_worn 11 = .ok (.ldc2_w 131, 3) := by decide +kernel
theorem dX5_worn_14 : decode cX5_worn 14 = .ok (.invokestatic 42, 3) := by decide +kernel
theorem dX5_worn_17 : decode cX5_worn 17 = .ok (.ifCond .eq 16, 3) := by decide +kernel
theorem dX5_worn_20 : decode cX5_worn 20 = .ok (.aload_n 0, 1) := by decide +kernel
theorem dX5_worn_21 : decode cX5_worn 21 = .ok (.iload_n 1, 1) := by decide +kernel
theorem dX5_worn_22 : decode cX5_worn 22 = .ok (.iconst 1, 1) := by decide +kernel
theorem dX5_worn_23 : decode cX5_worn 23 = .ok (.invokestatic 50, 3) := by decide +kernel
theorem dX5_worn_26 : decode cX5_worn 26 = .ok (.iload_n 2, 1) := by decide +kernel
theorem dX5_worn_27 : decode cX5_worn 27 = .ok (.invokevirtual 157, 3) := by decide +kernel
theorem dX5_worn_30 : decode cX5_worn 30 = .ok (.goto 9, 3) := by decide +kernel
theorem dX5_worn_33 : decode cX5_worn 33 = .ok (.aload_n 0, 1) := by decide +kernel
theorem dX5_worn_34 : decode cX5_worn 34 = .ok (.ldc 41, 2) := by decide +kernel
theorem dX5_worn_36 : decode cX5_worn 36 = .ok (.invokevirtual 61, 3) := by decide +kernel
theorem dX5_worn_39 : decode cX5_worn 39 = .ok (.ireturn, 1) := by decide +kernel
theorem dX5_firstAs_0 : decode cX5_firstAs 0 = .ok (.aload_n 0, 1) := by decide +kernel
theorem dX5_firstAs_1 : decode cX5_firstAs 1 = .ok (.invokevirtual 151, 3) := by decide +kernel
theorem dX5_firstAs_4 : decode cX5_firstAs 4 = .ok (.iconst 0, 1) := by decide +kernel
theorem dX5_firstAs_5 : decode cX5_firstAs 5 = .ok (.istore 4, 2) := by decide +kernel
theorem dX5_firstAs_7 : decode cX5_firstAs 7 = .ok (.iload 4, 2) := by decide +kernel
theorem dX5_firstAs_9 : decode cX5_firstAs 9 = .ok (.iload_n 3, 1) := by decide +kernel
theorem dX5_firstAs_10 : decode cX5_firstAs 10 = .ok (.if_icmp .gt 23, 3) := by decide +kernel
theorem dX5_firstAs_13 : decode cX5_firstAs 13 = .ok (.aload_n 0, 1) := by decide +kernel
theorem dX5_firstAs_14 : decode cX5_firstAs 14 = .ok (.getfield 7, 3) := by decide +kernel
theorem dX5_firstAs_17 : decode cX5_firstAs 17 = .ok (.iload_n 1, 1) := by decide +kernel
theorem dX5_firstAs_18 : decode cX5_firstAs 18 = .ok (.iaload, 1) := by decide +kernel
theorem dX5_firstAs_19 : decode cX5_firstAs 19 = .ok (.iload_n 2, 1) := by decide +kernel
theorem dX5_firstAs_20 : decode cX5_firstAs 20 = .ok (.if_icmp .eq 13, 3) := by decide +kernel
theorem dX5_firstAs_23 : decode cX5_firstAs 23 = .ok (.aload_n 0, 1) := by decide +kernel
theorem dX5_firstAs_24 : decode cX5_firstAs 24 = .ok (.invokevirtual 128, 3) := by decide +kernel
theorem dX5_firstAs_27 : decode cX5_firstAs 27 = .ok (.iinc 4 1, 3) := by decide +kernel
theorem dX5_firstAs_30 : decode cX5_firstAs 30 = .ok (.goto (-23), 3) := by decide +kernel
theorem dX5_firstAs_33 : decode cX5_firstAs 33 = .ok (.aload_n 0, 1) := by decide +kernel
theorem dX5_firstAs_34 : decode cX5_firstAs 34 = .ok (.iload 4, 2) := by decide +kernel
theorem dX5_firstAs_36 : decode cX5_firstAs 36 = .ok (.invokevirtual 154, 3) := by decide +kernel
theorem dX5_firstAs_39 : decode cX5_firstAs 39 = .ok (.ireturn, 1) := by decide +kernel
theorem dX5_quietIn_0 : decode cX5_quietIn 0 = .ok (.aload_n 0, 1) := by decide +kernel
theorem dX5_quietIn_1 : decode cX5_quietIn 1 = .ok (.invokevirtual 151, 3) := by decide +kernel
theorem dX5_quietIn_4 : decode cX5_quietIn 4 = .ok (.iconst 0, 1) := by decide +kernel
theorem dX5_quietIn_5 : decode cX5_quietIn 5 = .ok (.istore_n 2, 1) := by decide +kernel
theorem dX5_quietIn_6 : decode cX5_quietIn 6 = .ok (.iload_n 2, 1) := by decide +kernel
theorem dX5_quietIn_7 : decode cX5_quietIn 7 = .ok (.iload_n 1, 1) := by decide +kernel
theorem dX5_quietIn_8 : decode cX5_quietIn 8 = .ok (.if_icmp .gt 21, 3) := by decide +kernel
theorem dX5_quietIn_11 : decode cX5_quietIn 11 = .ok (.aload_n 0, 1) := by decide +kernel
theorem dX5_quietIn_12 : decode cX5_quietIn 12 = .ok (.iconst 1, 1) := by decide +kernel
theorem dX5_quietIn_13 : decode cX5_quietIn 13 = .ok (.invokevirtual 142, 3) := by decide +kernel
theorem dX5_quietIn_16 : decode cX5_quietIn 16 = .ok (.ifCond .le 13, 3) := by decide +kernel
theorem dX5_quietIn_19 : decode cX5_quietIn 19 = .ok (.aload_n 0, 1) := by decide +kernel
theorem dX5_quietIn_20 : decode cX5_quietIn 20 = .ok (.invokevirtual 128, 3) := by decide +kernel
theorem dX5_quietIn_23 : decode cX5_quietIn 23 = .ok (.iinc 2 1, 3) := by decide +kernel
theorem dX5_quietIn_26 : decode cX5_quietIn 26 = .ok (.goto (-20), 3) := by decide +kernel
theorem dX5_quietIn_29 : decode cX5_quietIn 29 = .ok (.aload_n 0, 1) := by decide +kernel
theorem dX5_quietIn_30 : decode cX5_quietIn 30 = .ok (.iload_n 2, 1) := by decide +kernel
theorem dX5_quietIn_31 : decode cX5_quietIn 31 = .ok (.invokevirtual 154, 3) := by decide +kernel
theorem dX5_quietIn_34 : decode cX5_quietIn 34 = .ok (.ireturn, 1) := by decide +kernel
theorem dX5_orNone_0 : decode cX5_orNone 0 = .ok (.iload_n 1, 1) := by decide +kernel
theorem dX5_orNone_1 : decode cX5_orNone 1 = .ok (.iload_n 2, 1) := by decide +kernel
theorem dX5_orNone_2 : decode cX5_orNone 2 = .ok (.if_icmp .le 12, 3) := by decide +kernel
theorem dX5_orNone_5 : decode cX5_orNone 5 = .ok (.aload_n 0, 1) := by decide +kernel
theorem dX5_orNone_6 : decode cX5_orNone 6 = .ok (.ldc 80, 2) := by decide +kernel
theorem dX5_orNone_8 : decode cX5_orNone 8 = .ok (.invokevirtual 61, 3) := by decide +kernel
theorem dX5_orNone_11 : decode cX5_orNone 11 = .ok (.goto 4, 3) := by decide +kernel
theorem dX5_orNone_14 : decode cX5_orNone 14 = .ok (.iload_n 1, 1) := by decide +kernel
theorem dX5_orNone_15 : decode cX5_orNone 15 = .ok (.ireturn, 1) := by decide +kernel
theorem dX5_sleeps_0 : decode cX5_sleeps 0 = .ok (.aload_n 0, 1) := by decide +kernel
theorem dX5_sleeps_1 : decode cX5_sleeps 1 = .ok (.iload_n 1, 1) := by decide +kernel
theorem dX5_sleeps_2 : decode cX5_sleeps 2 = .ok (.invokevirtual 93, 3) := by decide +kernel
theorem dX5_sleeps_5 : decode cX5_sleeps 5 = .ok (.ifCond .eq 26, 3) := by decide +kernel
theorem dX5_sleeps_8 : decode cX5_sleeps 8 = .ok (.aload_n 0, 1) := by decide +kernel
theorem dX5_sleeps_9 : decode cX5_sleeps 9 = .ok (.aload_n 0, 1) := by decide +kernel
theorem dX5_sleeps_10 : decode cX5_sleeps 10 = .ok (.iload_n 1, 1) := by decide +kernel
theorem dX5_sleeps_11 : decode cX5_sleeps 11 = .ok (.iconst 1, 1) := by decide +kernel
theorem dX5_sleeps_12 : decode cX5_sleeps 12 = .ok (.invokestatic 54, 3) := by decide +kernel
theorem dX5_sleeps_15 : decode cX5_sleeps 15 = .ok (.iconst 0, 1) := by decide +kernel
theorem dX5_sleeps_16 : decode cX5_sleeps 16 = .ok (.sipush 200, 3) := by decide +kernel
theorem dX5_sleeps_19 : decode cX5_sleeps 19 = .ok (.invokevirtual 160, 3) := by decide +kernel
theorem dX5_sleeps_22 : decode cX5_sleeps 22 = .ok (.sipush 200, 3) := by decide +kernel
theorem dX5_sleeps_25 : decode cX5_sleeps 25 = .ok (.invokevirtual 164, 3) := by decide +kernel
theorem dX5_sleeps_28 : decode cX5_sleeps 28 = .ok (.goto 9, 3) := by decide +kernel
theorem dX5_sleeps_31 : decode cX5_sleeps 31 = .ok (.aload_n 0, 1) := by decide +kernel
theorem dX5_sleeps_32 : decode cX5_sleeps 32 = .ok (.ldc 41, 2) := by decide +kernel
theorem dX5_sleeps_34 : decode cX5_sleeps 34 = .ok (.invokevirtual 61, 3) := by decide +kernel
theorem dX5_sleeps_37 : decode cX5_sleeps 37 = .ok (.ireturn, 1) := by decide +kernel
theorem dX5_quiet_0 : decode cX5_quiet 0 = .ok (.aload_n 0, 1) := by decide +kernel
theorem dX5_quiet_1 : decode cX5_quiet 1 = .ok (.aload_n 0, 1) := by decide +kernel
theorem dX5_quiet_2 : decode cX5_quiet 2 = .ok (.sipush 200, 3) := by decide +kernel
theorem dX5_quiet_5 : decode cX5_quiet 5 = .ok (.invokevirtual 167, 3) := by decide +kernel
theorem dX5_quiet_8 : decode cX5_quiet 8 = .ok (.sipush 200, 3) := by decide +kernel
theorem dX5_quiet_11 : decode cX5_quiet 11 = .ok (.invokevirtual 164, 3) := by decide +kernel
theorem dX5_quiet_14 : decode cX5_quiet 14 = .ok (.ireturn, 1) := by decide +kernel
theorem dX5_bare_0 : decode cX5_bare 0 = .ok (.aload_n 0, 1) := by decide +kernel
theorem dX5_bare_1 : decode cX5_bare 1 = .ok (.iload_n 1, 1) := by decide +kernel
theorem dX5_bare_2 : decode cX5_bare 2 = .ok (.invokevirtual 69, 3) := by decide +kernel
theorem dX5_bare_5 : decode cX5_bare 5 = .ok (.ifCond .eq 27, 3) := by decide +kernel
theorem dX5_bare_8 : decode cX5_bare 8 = .ok (.aload_n 0, 1) := by decide +kernel
theorem dX5_bare_9 : decode cX5_bare 9 = .ok (.aload_n 0, 1) := by decide +kernel
theorem dX5_bare_10 : decode cX5_bare 10 = .ok (.iload_n 1, 1) := by decide +kernel
theorem dX5_bare_11 : decode cX5_bare 11 = .ok (.iconst 1, 1) := by decide +kernel
theorem dX5_bare_12 : decode cX5_bare 12 = .ok (.invokestatic 50, 3) := by decide +kernel
theorem dX5_bare_15 : decode cX5_bare 15 = .ok (.bipush 99, 2) := by decide +kernel
theorem dX5_bare_17 : decode cX5_bare 17 = .ok (.sipush 200, 3) := by decide +kernel
theorem dX5_bare_20 : decode cX5_bare 20 = .ok (.invokevirtual 160, 3) := by decide +kernel
theorem dX5_bare_23 : decode cX5_bare 23 = .ok (.sipush 200, 3) := by decide +kernel
theorem dX5_bare_26 : decode cX5_bare 26 = .ok (.invokevirtual 164, 3) := by decide +kernel
theorem dX5_bare_29 : decode cX5_bare 29 = .ok (.goto 9, 3) := by decide +kernel
theorem dX5_bare_32 : decode cX5_bare 32 = .ok (.aload_n 0, 1) := by decide +kernel
theorem dX5_bare_33 : decode cX5_bare 33 = .ok (.ldc 41, 2) := by decide +kernel
theorem dX5_bare_35 : decode cX5_bare 35 = .ok (.invokevirtual 61, 3) := by decide +kernel
theorem dX5_bare_38 : decode cX5_bare 38 = .ok (.ireturn, 1) := by decide +kernel
theorem dX5_begins_0 : decode cX5_begins 0 = .ok (.aload_n 0, 1) := by decide +kernel
theorem dX5_begins_1 : decode cX5_begins 1 = .ok (.iconst (-1), 1) := by decide +kernel
theorem dX5_begins_2 : decode cX5_begins 2 = .ok (.putfield 170, 3) := by decide +kernel
theorem dX5_begins_5 : decode cX5_begins 5 = .ok (.aload_n 0, 1) := by decide +kernel
theorem dX5_begins_6 : decode cX5_begins 6 = .ok (.iload_n 1, 1) := by decide +kernel
theorem dX5_begins_7 : decode cX5_begins 7 = .ok (.putfield 174, 3) := by decide +kernel
theorem dX5_begins_10 : decode cX5_begins 10 = .ok (.return_, 1) := by decide +kernel
theorem dX5_tries_0 : decode cX5_tries 0 = .ok (.aload_n 0, 1) := by decide +kernel
theorem dX5_tries_1 : decode cX5_tries 1 = .ok (.iload_n 2, 1) := by decide +kernel
theorem dX5_tries_2 : decode cX5_tries 2 = .ok (.aload_n 0, 1) := by decide +kernel
theorem dX5_tries_3 : decode cX5_tries 3 = .ok (.getfield 174, 3) := by decide +kernel
theorem dX5_tries_6 : decode cX5_tries 6 = .ok (.if_icmp .ge 7, 3) := by decide +kernel
theorem dX5_tries_9 : decode cX5_tries 9 = .ok (.iload_n 1, 1) := by decide +kernel
theorem dX5_tries_10 : decode cX5_tries 10 = .ok (.goto 7, 3) := by decide +kernel
theorem dX5_tries_13 : decode cX5_tries 13 = .ok (.aload_n 0, 1) := by decide +kernel
theorem dX5_tries_14 : decode cX5_tries 14 = .ok (.getfield 170, 3) := by decide +kernel
theorem dX5_tries_17 : decode cX5_tries 17 = .ok (.putfield 170, 3) := by decide +kernel
theorem dX5_tries_20 : decode cX5_tries 20 = .ok (.aload_n 0, 1) := by decide +kernel
theorem dX5_tries_21 : decode cX5_tries 21 = .ok (.iload_n 2, 1) := by decide +kernel
theorem dX5_tries_22 : decode cX5_tries 22 = .ok (.aload_n 0, 1) := by decide +kernel
theorem dX5_tries_23 : decode cX5_tries 23 = .ok (.getfield 174, 3) := by decide +kernel
theorem dX5_tries_26 : decode cX5_tries 26 = .ok (.if_icmp .ge 7, 3) := by decide +kernel
theorem dX5_tries_29 : decode cX5_tries 29 = .ok (.iload_n 2, 1) := by decide +kernel
theorem dX5_tries_30 : decode cX5_tries 30 = .ok (.goto 7, 3) := by decide +kernel
theorem dX5_tries_33 : decode cX5_tries 33 = .ok (.aload_n 0, 1) := by decide +kernel
theorem dX5_tries_34 : decode cX5_tries 34 = .ok (.getfield 174, 3) := by decide +kernel
theorem dX5_tries_37 : decode cX5_tries 37 = .ok (.putfield 174, 3) := by decide +kernel
theorem dX5_tries_40 : decode cX5_tries 40 = .ok (.return_, 1) := by decide +kernel
theorem dX5_bestOrNone_0 : decode cX5_bestOrNone 0 = .ok (.aload_n 0, 1) := by decide +kernel
theorem dX5_bestOrNone_1 : decode cX5_bestOrNone 1 = .ok (.getfield 170, 3) := by decide +kernel
theorem dX5_bestOrNone_4 : decode cX5_bestOrNone 4 = .ok (.ifCond .ge 12, 3) := by decide +kernel
theorem dX5_bestOrNone_7 : decode cX5_bestOrNone 7 = .ok (.aload_n 0, 1) := by decide +kernel
theorem dX5_bestOrNone_8 : decode cX5_bestOrNone 8 = .ok (.ldc 80, 2) := by decide +kernel
theorem dX5_bestOrNone_10 : decode cX5_bestOrNone 10 = .ok (.invokevirtual 61, 3) := by decide +kernel
theorem dX5_bestOrNone_13 : decode cX5_bestOrNone 13 = .ok (.goto 7, 3) := by decide +kernel
theorem dX5_bestOrNone_16 : decode cX5_bestOrNone 16 = .ok (.aload_n 0, 1) := by decide +kernel
theorem dX5_bestOrNone_17 : decode cX5_bestOrNone 17 = .ok (.getfield 170, 3) := by decide +kernel
theorem dX5_bestOrNone_20 : decode cX5_bestOrNone 20 = .ok (.ireturn, 1) := by decide +kernel
theorem dX5_guise_0 : decode cX5_guise 0 = .ok (.aload_n 0, 1) := by decide +kernel
theorem dX5_guise_1 : decode cX5_guise 1 = .ok (.iload_n 1, 1) := by decide +kernel
theorem dX5_guise_2 : decode cX5_guise 2 = .ok (.invokevirtual 69, 3) := by decide +kernel
theorem dX5_guise_5 : decode cX5_guise 5 = .ok (.ifCond .ne 10, 3) := by decide +kernel
theorem dX5_guise_8 : decode cX5_guise 8 = .ok (.aload_n 0, 1) := by decide +kernel
theorem dX5_guise_9 : decode cX5_guise 9 = .ok (.ldc 41, 2) := by decide +kernel
theorem dX5_guise_11 : decode cX5_guise 11 = .ok (.invokevirtual 61, 3) := by decide +kernel
theorem dX5_guise_14 : decode cX5_guise 14 = .ok (.ireturn, 1) := by decide +kernel
theorem dX5_guise_15 : decode cX5_guise 15 = .ok (.aload_n 0, 1) := by decide +kernel
theorem dX5_guise_16 : decode cX5_guise 16 = .ok (.iload_n 1, 1) := by decide +kernel
theorem dX5_guise_17 : decode cX5_guise 17 = .ok (.iconst 0, 1) := by decide +kernel
theorem dX5_guise_18 : decode cX5_guise 18 = .ok (.invokevirtual 72, 3) := by decide +kernel
theorem dX5_guise_21 : decode cX5_guise 21 = .ok (.istore_n 2, 1) := by decide +kernel
theorem dX5_guise_22 : decode cX5_guise 22 = .ok (.aload_n 0, 1) := by decide +kernel
theorem dX5_guise_23 : decode cX5_guise 23 = .ok (.bipush 101, 2) := by decide +kernel
theorem dX5_guise_25 : decode cX5_guise 25 = .ok (.invokevirtual 177, 3) := by decide +kernel
theorem dX5_guise_28 : decode cX5_guise 28 = .ok (.iconst 0, 1) := by decide +kernel
theorem dX5_guise_29 : decode cX5_guise 29 = .ok (.istore_n 3, 1) := by decide +kernel
theorem dX5_guise_30 : decode cX5_guise 30 = .ok (.iload_n 3, 1) := by decide +kernel
theorem dX5_guise_31 : decode cX5_guise 31 = .ok (.bipush 8, 2) := by decide +kernel
theorem dX5_guise_33 : decode cX5_guise 33 = .ok (.if_icmp .ge 31, 3) := by decide +kernel
theorem dX5_guise_36 : decode cX5_guise 36 = .ok (.aload_n 0, 1) := by decide +kernel
theorem dX5_guise_37 : decode cX5_guise 37 = .ok (.getfield 7, 3) := by decide +kernel
theorem dX5_guise_40 : decode cX5_guise 40 = .ok (.iload_n 1, 1) := by decide +kernel
theorem dX5_guise_41 : decode cX5_guise 41 = .ok (.iconst 0, 1) := by decide +kernel
theorem dX5_guise_42 : decode cX5_guise 42 = .ok (.invokestatic 50, 3) := by decide +kernel
theorem dX5_guise_45 : decode cX5_guise 45 = .ok (.iload_n 3, 1) := by decide +kernel
theorem dX5_guise_46 : decode cX5_guise 46 = .ok (.iastore, 1) := by decide +kernel
theorem dX5_guise_47 : decode cX5_guise 47 = .ok (.aload_n 0, 1) := by decide +kernel
theorem dX5_guise_48 : decode cX5_guise 48 = .ok (.iload_n 3, 1) := by decide +kernel
theorem dX5_guise_49 : decode cX5_guise 49 = .ok (.aload_n 0, 1) := by decide +kernel
theorem dX5_guise_50 : decode cX5_guise 50 = .ok (.bipush 100, 2) := by decide +kernel
theorem dX5_guise_52 : decode cX5_guise 52 = .ok (.invokevirtual 167, 3) := by decide +kernel
theorem dX5_guise_55 : decode cX5_guise 55 = .ok (.invokevirtual 180, 3) := by decide +kernel
theorem dX5_guise_58 : decode cX5_guise 58 = .ok (.iinc 3 1, 3) := by decide +kernel
theorem dX5_guise_61 : decode cX5_guise 61 = .ok (.goto (-31), 3) := by decide +kernel
theorem dX5_guise_64 : decode cX5_guise 64 = .ok (.aload_n 0, 1) := by decide +kernel
theorem dX5_guise_65 : decode cX5_guise 65 = .ok (.getfield 7, 3) := by decide +kernel
theorem dX5_guise_68 : decode cX5_guise 68 = .ok (.iload_n 1, 1) := by decide +kernel
theorem dX5_guise_69 : decode cX5_guise 69 = .ok (.iconst 0, 1) := by decide +kernel
theorem dX5_guise_70 : decode cX5_guise 70 = .ok (.invokestatic 50, 3) := by decide +kernel
theorem dX5_guise_73 : decode cX5_guise 73 = .ok (.iload_n 2, 1) := by decide +kernel
theorem dX5_guise_74 : decode cX5_guise 74 = .ok (.iastore, 1) := by decide +kernel
theorem dX5_guise_75 : decode cX5_guise 75 = .ok (.aload_n 0, 1) := by decide +kernel
theorem dX5_guise_76 : decode cX5_guise 76 = .ok (.invokevirtual 184, 3) := by decide +kernel
theorem dX5_guise_79 : decode cX5_guise 79 = .ok (.ireturn, 1) := by decide +kernel
theorem dX5_guises_0 : decode cX5_guises 0 = .ok (.aload_n 0, 1) := by decide +kernel
theorem dX5_guises_1 : decode cX5_guises 1 = .ok (.iload_n 1, 1) := by decide +kernel
theorem dX5_guises_2 : decode cX5_guises 2 = .ok (.invokevirtual 69, 3) := by decide +kernel
theorem dX5_guises_5 : decode cX5_guises 5 = .ok (.ifCond .eq 16, 3) := by decide +kernel
theorem dX5_guises_8 : decode cX5_guises 8 = .ok (.aload_n 0, 1) := by decide +kernel
theorem dX5_guises_9 : decode cX5_guises 9 = .ok (.iload_n 2, 1) := by decide +kernel
theorem dX5_guises_10 : decode cX5_guises 10 = .ok (.invokevirtual 69, 3) := by decide +kernel
theorem dX5_guises_13 : decode cX5_guises 13 = .ok (.ifCond .eq 8, 3) := by decide +kernel
theorem dX5_guises_16 : decode cX5_guises 16 = .ok (.iload_n 1, 1) := by decide +kernel
theorem dX5_guises_17 : decode cX5_guises 17 = .ok (.iload_n 2, 1) := by decide +kernel
theorem dX5_guises_18 : decode cX5_guises 18 = .ok (.if_icmp .ne 10, 3) := by decide +kernel
theorem dX5_guises_21 : decode cX5_guises 21 = .ok (.aload_n 0, 1) := by decide +kernel
theorem dX5_guises_22 : decode cX5_guises 22 = .ok (.ldc 41, 2) := by decide +kernel
theorem dX5_guises_24 : decode cX5_guises 24 = .ok (.invokevirtual 61, 3) := by decide +kernel
theorem dX5_guises_27 : decode cX5_guises 27 = .ok (.ireturn, 1) := by decide +kernel
theorem dX5_guises_28 : decode cX5_guises 28 = .ok (.aload_n 0, 1) := by decide +kernel
theorem dX5_guises_29 : decode cX5_guises 29 = .ok (.iload_n 1, 1) := by decide +kernel
theorem dX5_guises_30 : decode cX5_guises 30 = .ok (.iconst 0, 1) := by decide +kernel
theorem dX5_guises_31 : decode cX5_guises 31 = .ok (.invokevirtual 72, 3) := by decide +kernel
theorem dX5_guises_34 : decode cX5_guises 34 = .ok (.istore_n 3, 1) := by decide +kernel
theorem dX5_guises_35 : decode cX5_guises 35 = .ok (.aload_n 0, 1) := by decide +kernel
theorem dX5_guises_36 : decode cX5_guises 36 = .ok (.iload_n 2, 1) := by decide +kernel
theorem dX5_guises_37 : decode cX5_guises 37 = .ok (.iconst 0, 1) := by decide +kernel
theorem dX5_guises_38 : decode cX5_guises 38 = .ok (.invokevirtual 72, 3) := by decide +kernel
theorem dX5_guises_41 : decode cX5_guises 41 = .ok (.istore 4, 2) := by decide +kernel
theorem dX5_guises_43 : decode cX5_guises 43 = .ok (.aload_n 0, 1) := by decide +kernel
theorem dX5_guises_44 : decode cX5_guises 44 = .ok (.bipush 61, 2) := by decide +kernel
theorem dX5_guises_46 : decode cX5_guises 46 = .ok (.invokevirtual 177, 3) := by decide +kernel
theorem dX5_guises_49 : decode cX5_guises 49 = .ok (.iconst 0, 1) := by decide +kernel
theorem dX5_guises_50 : decode cX5_guises 50 = .ok (.istore 5, 2) := by decide +kernel
theorem dX5_guises_52 : decode cX5_guises 52 = .ok (.iload 5, 2) := by decide +kernel
theorem dX5_guises_54 : decode cX5_guises 54 = .ok (.bipush 64, 2) := by decide +kernel
theorem dX5_guises_56 : decode cX5_guises 56 = .ok (.if_icmp .ge 51, 3) := by decide +kernel
theorem dX5_guises_59 : decode cX5_guises 59 = .ok (.aload_n 0, 1) := by decide +kernel
theorem dX5_guises_60 : decode cX5_guises 60 = .ok (.getfield 7, 3) := by decide +kernel
theorem dX5_guises_63 : decode cX5_guises 63 = .ok (.iload_n 1, 1) := by decide +kernel
theorem dX5_guises_64 : decode cX5_guises 64 = .ok (.iconst 0, 1) := by decide +kernel
theorem dX5_guises_65 : decode cX5_guises 65 = .ok (.invokestatic 50, 3) := by decide +kernel
theorem dX5_guises_68 : decode cX5_guises 68 = .ok (.iload 5, 2) := by decide +kernel
theorem dX5_guises_70 : decode cX5_guises 70 = .ok (.bipush 8, 2) := by decide +kernel
theorem dX5_guises_72 : decode cX5_guises 72 = .ok (.idiv, 1) := by decide +kernel
theorem dX5_guises_73 : decode cX5_guises 73 = .ok (.iastore, 1) := by decide +kernel
theorem dX5_guises_74 : decode cX5_guises 74 = .ok (.aload_n 0, 1) := by decide +kernel
theorem dX5_guises_75 : decode cX5_guises 75 = .ok (.getfield 7, 3) := by decide +kernel
theorem dX5_guises_78 : decode cX5_guises 78 = .ok (.iload_n 2, 1) := by decide +kernel
theorem dX5_guises_79 : decode cX5_guises 79 = .ok (.iconst 0, 1) := by decide +kernel
theorem dX5_guises_80 : decode cX5_guises 80 = .ok (.invokestatic 50, 3) := by decide +kernel
theorem dX5_guises_83 : decode cX5_guises 83 = .ok (.iload 5, 2) := by decide +kernel
theorem dX5_guises_85 : decode cX5_guises 85 = .ok (.bipush 8, 2) := by decide +kernel
theorem dX5_guises_87 : decode cX5_guises 87 = .ok (.irem, 1) := by decide +kernel
theorem dX5_guises_88 : decode cX5_guises 88 = .ok (.iastore, 1) := by decide +kernel
theorem dX5_guises_89 : decode cX5_guises 89 = .ok (.aload_n 0, 1) := by decide +kernel
theorem dX5_guises_90 : decode cX5_guises 90 = .ok (.iload 5, 2) := by decide +kernel
theorem dX5_guises_92 : decode cX5_guises 92 = .ok (.aload_n 0, 1) := by decide +kernel
theorem dX5_guises_93 : decode cX5_guises 93 = .ok (.bipush 60, 2) := by decide +kernel
theorem dX5_guises_95 : decode cX5_guises 95 = .ok (.invokevirtual 167, 3) := by decide +kernel
theorem dX5_guises_98 : decode cX5_guises 98 = .ok (.invokevirtual 180, 3) := by decide +kernel
theorem dX5_guises_101 : decode cX5_guises 101 = .ok (.iinc 5 1, 3) := by decide +kernel
theorem dX5_guises_104 : decode cX5_guises 104 = .ok (.goto (-52), 3) := by decide +kernel
theorem dX5_guises_107 : decode cX5_guises 107 = .ok (.aload_n 0, 1) := by decide +kernel
theorem dX5_guises_108 : decode cX5_guises 108 = .ok (.getfield 7, 3) := by decide +kernel
theorem dX5_guises_111 : decode cX5_guises 111 = .ok (.iload_n 1, 1) := by decide +kernel
theorem dX5_guises_112 : decode cX5_guises 112 = .ok (.iconst 0, 1) := by decide +kernel
theorem dX5_guises_113 : decode cX5_guises 113 = .ok (.invokestatic 50, 3) := by decide +kernel
theorem dX5_guises_116 : decode cX5_guises 116 = .ok (.iload_n 3, 1) := by decide +kernel
theorem dX5_guises_117 : decode cX5_guises 117 = .ok (.iastore, 1) := by decide +kernel
theorem dX5_guises_118 : decode cX5_guises 118 = .ok (.aload_n 0, 1) := by decide +kernel
theorem dX5_guises_119 : decode cX5_guises 119 = .ok (.getfield 7, 3) := by decide +kernel
theorem dX5_guises_122 : decode cX5_guises 122 = .ok (.iload_n 2, 1) := by decide +kernel
theorem dX5_guises_123 : decode cX5_guises 123 = .ok (.iconst 0, 1) := by decide +kernel
theorem dX5_guises_124 : decode cX5_guises 124 = .ok (.invokestatic 50, 3) := by decide +kernel
theorem dX5_guises_127 : decode cX5_guises 127 = .ok (.iload 4, 2) := by decide +kernel
theorem dX5_guises_129 : decode cX5_guises 129 = .ok (.iastore, 1) := by decide +kernel
theorem dX5_guises_130 : decode cX5_guises 130 = .ok (.aload_n 0, 1) := by decide +kernel
theorem dX5_guises_131 : decode cX5_guises 131 = .ok (.invokevirtual 184, 3) := by decide +kernel
theorem dX5_guises_134 : decode cX5_guises 134 = .ok (.ireturn, 1) := by decide +kernel
theorem dX5_swaps_0 : decode cX5_swaps 0 = .ok (.iconst 0, 1) := by decide +kernel
theorem dX5_swaps_1 : decode cX5_swaps 1 = .ok (.istore_n 3, 1) := by decide +kernel
theorem dX5_swaps_2 : decode cX5_swaps 2 = .ok (.iload_n 3, 1) := by decide +kernel
theorem dX5_swaps_3 : decode cX5_swaps 3 = .ok (.iconst 1, 1) := by decide +kernel
theorem dX5_swaps_4 : decode cX5_swaps 4 = .ok (.if_icmp .gt 38, 3) := by decide +kernel
theorem dX5_swaps_7 : decode cX5_swaps 7 = .ok (.aload_n 0, 1) := by decide +kernel
theorem dX5_swaps_8 : decode cX5_swaps 8 = .ok (.iload_n 1, 1) := by decide +kernel
theorem dX5_swaps_9 : decode cX5_swaps 9 = .ok (.iload_n 3, 1) := by decide +kernel
theorem dX5_swaps_10 : decode cX5_swaps 10 = .ok (.invokestatic 50, 3) := by decide +kernel
theorem dX5_swaps_13 : decode cX5_swaps 13 = .ok (.aload_n 0, 1) := by decide +kernel
theorem dX5_swaps_14 : decode cX5_swaps 14 = .ok (.iload_n 2, 1) := by decide +kernel
theorem dX5_swaps_15 : decode cX5_swaps 15 = .ok (.iload_n 3, 1) := by decide +kernel
theorem dX5_swaps_16 : decode cX5_swaps 16 = .ok (.invokevirtual 72, 3) := by decide +kernel
theorem dX5_swaps_19 : decode cX5_swaps 19 = .ok (.invokevirtual 77, 3) := by decide +kernel
theorem dX5_swaps_22 : decode cX5_swaps 22 = .ok (.istore 4, 2) := by decide +kernel
theorem dX5_swaps_24 : decode cX5_swaps 24 = .ok (.aload_n 0, 1) := by decide +kernel
theorem dX5_swaps_25 : decode cX5_swaps 25 = .ok (.getfield 7, 3) := by decide +kernel
theorem dX5_swaps_28 : decode cX5_swaps 28 = .ok (.iload_n 2, 1) := by decide +kernel
theorem dX5_swaps_29 : decode cX5_swaps 29 = .ok (.iload_n 3, 1) := by decide +kernel
theorem dX5_swaps_30 : decode cX5_swaps 30 = .ok (.invokestatic 50, 3) := by decide +kernel
theorem dX5_swaps_33 : decode cX5_swaps 33 = .ok (.iload 4, 2) := by decide +kernel
theorem dX5_swaps_35 : decode cX5_swaps 35 = .ok (.iastore, 1) := by decide +kernel
theorem dX5_swaps_36 : decode cX5_swaps 36 = .ok (.iinc 3 1, 3) := by decide +kernel
theorem dX5_swaps_39 : decode cX5_swaps 39 = .ok (.goto (-37), 3) := by decide +kernel
theorem dX5_swaps_42 : decode cX5_swaps 42 = .ok (.return_, 1) := by decide +kernel
theorem dX5_swap_0 : decode cX5_swap 0 = .ok (.aload_n 0, 1) := by decide +kernel
theorem dX5_swap_1 : decode cX5_swap 1 = .ok (.aload_n 0, 1) := by decide +kernel
theorem dX5_swap_2 : decode cX5_swap 2 = .ok (.bipush 100, 2) := by decide +kernel
theorem dX5_swap_4 : decode cX5_swap 4 = .ok (.invokevirtual 167, 3) := by decide +kernel
theorem dX5_swap_7 : decode cX5_swap 7 = .ok (.invokevirtual 177, 3) := by decide +kernel
theorem dX5_swap_10 : decode cX5_swap 10 = .ok (.iconst 0, 1) := by decide +kernel
theorem dX5_swap_11 : decode cX5_swap 11 = .ok (.istore_n 1, 1) := by decide +kernel
theorem dX5_swap_12 : decode cX5_swap 12 = .ok (.iload_n 1, 1) := by decide +kernel
theorem dX5_swap_13 : decode cX5_swap 13 = .ok (.aload_n 0, 1) := by decide +kernel
theorem dX5_swap_14 : decode cX5_swap 14 = .ok (.getfield 7, 3) := by decide +kernel
theorem dX5_swap_17 : decode cX5_swap 17 = .ok (.iconst 1, 1) := by decide +kernel
theorem dX5_swap_18 : decode cX5_swap 18 = .ok (.iaload, 1) := by decide +kernel
theorem dX5_swap_19 : decode cX5_swap 19 = .ok (.if_icmp .ge 57, 3) := by decide +kernel
theorem dX5_swap_22 : decode cX5_swap 22 = .ok (.iload_n 1, 1) := by decide +kernel
theorem dX5_swap_23 : decode cX5_swap 23 = .ok (.iconst 1, 1) := by decide +kernel
theorem dX5_swap_24 : decode cX5_swap 24 = .ok (.iadd, 1) := by decide +kernel
theorem dX5_swap_25 : decode cX5_swap 25 = .ok (.istore_n 2, 1) := by decide +kernel
theorem dX5_swap_26 : decode cX5_swap 26 = .ok (.iload_n 2, 1) := by decide +kernel
theorem dX5_swap_27 : decode cX5_swap 27 = .ok (.aload_n 0, 1) := by decide +kernel
theorem dX5_swap_28 : decode cX5_swap 28 = .ok (.getfield 7, 3) := by decide +kernel
theorem dX5_swap_31 : decode cX5_swap 31 = .ok (.iconst 1, 1) := by decide +kernel
theorem dX5_swap_32 : decode cX5_swap 32 = .ok (.iaload, 1) := by decide +kernel
theorem dX5_swap_33 : decode cX5_swap 33 = .ok (.if_icmp .ge 37, 3) := by decide +kernel
theorem dX5_swap_36 : decode cX5_swap 36 = .ok (.aload_n 0, 1) := by decide +kernel
theorem dX5_swap_37 : decode cX5_swap 37 = .ok (.iload_n 1, 1) := by decide +kernel
theorem dX5_swap_38 : decode cX5_swap 38 = .ok (.iload_n 2, 1) := by decide +kernel
theorem dX5_swap_39 : decode cX5_swap 39 = .ok (.invokevirtual 187, 3) := by decide +kernel
theorem dX5_swap_42 : decode cX5_swap 42 = .ok (.aload_n 0, 1) := by decide +kernel
theorem dX5_swap_43 : decode cX5_swap 43 = .ok (.bipush 10, 2) := by decide +kernel
theorem dX5_swap_45 : decode cX5_swap 45 = .ok (.iload_n 1, 1) := by decide +kernel
theorem dX5_swap_46 : decode cX5_swap 46 = .ok (.imul, 1) := by decide +kernel
theorem dX5_swap_47 : decode cX5_swap 47 = .ok (.iload_n 2, 1) := by decide +kernel
theorem dX5_swap_48 : decode cX5_swap 48 = .ok (.iadd, 1) := by decide +kernel
theorem dX5_swap_49 : decode cX5_swap 49 = .ok (.aload_n 0, 1) := by decide +kernel
theorem dX5_swap_50 : decode cX5_swap 50 = .ok (.bipush 100, 2) := by decide +kernel
theorem dX5_swap_52 : decode cX5_swap 52 = .ok (.invokevirtual 167, 3) := by decide +kernel
theorem dX5_swap_55 : decode cX5_swap 55 = .ok (.invokevirtual 180, 3) := by decide +kernel
theorem dX5_swap_58 : decode cX5_swap 58 = .ok (.aload_n 0, 1) := by decide +kernel
theorem dX5_swap_59 : decode cX5_swap 59 = .ok (.iload_n 1, 1) := by decide +kernel
theorem dX5_swap_60 : decode cX5_swap 60 = .ok (.iload_n 2, 1) := by decide +kernel
theorem dX5_swap_61 : decode cX5_swap 61 = .ok (.invokevirtual 187, 3) := by decide +kernel
theorem dX5_swap_64 : decode cX5_swap 64 = .ok (.iinc 2 1, 3) := by decide +kernel
theorem dX5_swap_67 : decode cX5_swap 67 = .ok (.goto (-41), 3) := by decide +kernel
theorem dX5_swap_70 : decode cX5_swap 70 = .ok (.iinc 1 1, 3) := by decide +kernel
theorem dX5_swap_73 : decode cX5_swap 73 = .ok (.goto (-61), 3) := by decide +kernel
theorem dX5_swap_76 : decode cX5_swap 76 = .ok (.aload_n 0, 1) := by decide +kernel
theorem dX5_swap_77 : decode cX5_swap 77 = .ok (.invokevirtual 184, 3) := by decide +kernel
theorem dX5_swap_80 : decode cX5_swap 80 = .ok (.ireturn, 1) := by decide +kernel
theorem dX5_spare_0 : decode cX5_spare 0 = .ok (.iload_n 1, 1) := by decide +kernel
theorem dX5_spare_1 : decode cX5_spare 1 = .ok (.i2l, 1) := by decide +kernel
theorem dX5_spare_2 : decode cX5_spare 2 = .ok (.lconst 1, 1) := by decide +kernel
theorem dX5_spare_3 : decode cX5_spare 3 = .ok (.ldc2_w 190, 3) := by decide +kernel
theorem dX5_spare_6 : decode cX5_spare 6 = .ok (.invokestatic 42, 3) := by decide +kernel
theorem dX5_spare_9 : decode cX5_spare 9 = .ok (.ifCond .eq 15, 3) := by decide +kernel
theorem dX5_spare_12 : decode cX5_spare 12 = .ok (.iload_n 2, 1) := by decide +kernel
theorem dX5_spare_13 : decode cX5_spare 13 = .ok (.i2l, 1) := by decide +kernel
theorem dX5_spare_14 : decode cX5_spare 14 = .ok (.lconst 0, 1) := by decide +kernel
theorem dX5_spare_15 : decode cX5_spare 15 = .ok (.ldc2_w 192, 3) := by decide +kernel
theorem dX5_spare_18 : decode cX5_spare 18 = .ok (.invokestatic 42, 3) := by decide +kernel
theorem dX5_spare_21 : decode cX5_spare 21 = .ok (.ifCond .ne 10, 3) := by decide +kernel
theorem dX5_spare_24 : decode cX5_spare 24 = .ok (.aload_n 0, 1) := by decide +kernel
theorem dX5_spare_25 : decode cX5_spare 25 = .ok (.ldc 41, 2) := by decide +kernel
theorem dX5_spare_27 : decode cX5_spare 27 = .ok (.invokevirtual 61, 3) := by decide +kernel
theorem dX5_spare_30 : decode cX5_spare 30 = .ok (.ireturn, 1) := by decide +kernel
theorem dX5_spare_31 : decode cX5_spare 31 = .ok (.iconst 1, 1) := by decide +kernel
theorem dX5_spare_32 : decode cX5_spare 32 = .ok (.aload_n 0, 1) := by decide +kernel
theorem dX5_spare_33 : decode cX5_spare 33 = .ok (.getfield 7, 3) := by decide +kernel
theorem dX5_spare_36 : decode cX5_spare 36 = .ok (.iconst 1, 1) := by decide +kernel
theorem dX5_spare_37 : decode cX5_spare 37 = .ok (.iaload, 1) := by decide +kernel
theorem dX5_spare_38 : decode cX5_spare 38 = .ok (.ishl, 1) := by decide +kernel
theorem dX5_spare_39 : decode cX5_spare 39 = .ok (.iconst 1, 1) := by decide +kernel
theorem dX5_spare_40 : decode cX5_spare 40 = .ok (.isub, 1) := by decide +kernel
theorem dX5_spare_41 : decode cX5_spare 41 = .ok (.istore_n 3, 1) := by decide +kernel
theorem dX5_spare_42 : decode cX5_spare 42 = .ok (.iconst (-1), 1) := by decide +kernel
theorem dX5_spare_43 : decode cX5_spare 43 = .ok (.istore 4, 2) := by decide +kernel
theorem dX5_spare_45 : decode cX5_spare 45 = .ok (.aload_n 0, 1) := by decide +kernel
theorem dX5_spare_46 : decode cX5_spare 46 = .ok (.invokevirtual 151, 3) := by decide +kernel
theorem dX5_spare_49 : decode cX5_spare 49 = .ok (.iconst 0, 1) := by decide +kernel
theorem dX5_spare_50 : decode cX5_spare 50 = .ok (.istore 5, 2) := by decide +kernel
theorem dX5_spare_52 : decode cX5_spare 52 = .ok (.iload 5, 2) := by decide +kernel
theorem dX5_spare_54 : decode cX5_spare 54 = .ok (.iload_n 3, 1) := by decide +kernel
theorem dX5_spare_55 : decode cX5_spare 55 = .ok (.if_icmp .gt 113, 3) := by decide +kernel
theorem dX5_spare_58 : decode cX5_spare 58 = .ok (.iload 4, 2) := by decide +kernel
theorem dX5_spare_60 : decode cX5_spare 60 = .ok (.ifCond .lt 16, 3) := by decide +kernel
theorem dX5_spare_63 : decode cX5_spare 63 = .ok (.iload 5, 2) := by decide +kernel
theorem dX5_spare_65 : decode cX5_spare 65 = .ok (.invokestatic 90, 3) := by decide +kernel
theorem dX5_spare_68 : decode cX5_spare 68 = .ok (.iload 4, 2) := by decide +kernel
theorem dX5_spare_70 : decode cX5_spare 70 = .ok (.invokestatic 90, 3) := by decide +kernel
theorem dX5_spare_73 : decode cX5_spare 73 = .ok (.if_icmp .ge 89, 3) := by decide +kernel
theorem dX5_spare_76 : decode cX5_spare 76 = .ok (.iconst 0, 1) := by decide +kernel
theorem dX5_spare_77 : decode cX5_spare 77 = .ok (.istore 6, 2) := by decide +kernel
theorem dX5_spare_79 : decode cX5_spare 79 = .ok (.iload 6, 2) := by decide +kernel
theorem dX5_spare_81 : decode cX5_spare 81 = .ok (.aload_n 0, 1) := by decide +kernel
theorem dX5_spare_82 : decode cX5_spare 82 = .ok (.getfield 7, 3) := by decide +kernel
theorem dX5_spare_85 : decode cX5_spare 85 = .ok (.iconst 1, 1) := by decide +kernel
theorem dX5_spare_86 : decode cX5_spare 86 = .ok (.iaload, 1) := by decide +kernel
theorem dX5_spare_87 : decode cX5_spare 87 = .ok (.if_icmp .ge 43, 3) := by decide +kernel
theorem dX5_spare_90 : decode cX5_spare 90 = .ok (.aload_n 0, 1) := by decide +kernel
theorem dX5_spare_91 : decode cX5_spare 91 = .ok (.getfield 7, 3) := by decide +kernel
theorem dX5_spare_94 : decode cX5_spare 94 = .ok (.iload 6, 2) := by decide +kernel
theorem dX5_spare_96 : decode cX5_spare 96 = .ok (.iconst 1, 1) := by decide +kernel
theorem dX5_spare_97 : decode cX5_spare 97 = .ok (.invokestatic 50, 3) := by decide +kernel
theorem dX5_spare_100 : decode cX5_spare 100 = .ok (.iload 5, 2) := by decide +kernel
theorem dX5_spare_102 : decode cX5_spare 102 = .ok (.iload 6, 2) := by decide +kernel
theorem dX5_spare_104 : decode cX5_spare 104 = .ok (.ishr, 1) := by decide +kernel
theorem dX5_spare_105 : decode cX5_spare 105 = .ok (.iconst 1, 1) := by decide +kernel
theorem dX5_spare_106 : decode cX5_spare 106 = .ok (.iand, 1) := by decide +kernel
theorem dX5_spare_107 : decode cX5_spare 107 = .ok (.iconst 1, 1) := by decide +kernel
theorem dX5_spare_108 : decode cX5_spare 108 = .ok (.if_icmp .ne 8, 3) := by decide +kernel
theorem dX5_spare_111 : decode cX5_spare 111 = .ok (.bipush 99, 2) := by decide +kernel
theorem dX5_spare_113 : decode cX5_spare 113 = .ok (.goto 10, 3) := by decide +kernel
theorem dX5_spare_116 : decode cX5_spare 116 = .ok (.aload_n 0, 1) := by decide +kernel
theorem dX5_spare_117 : decode cX5_spare 117 = .ok (.iload 6, 2) := by decide +kernel
theorem dX5_spare_119 : decode cX5_spare 119 = .ok (.iconst 1, 1) := by decide +kernel
theorem dX5_spare_120 : decode cX5_spare 120 = .ok (.invokevirtual 72, 3) := by decide +kernel
theorem dX5_spare_123 : decode cX5_spare 123 = .ok (.iastore, 1) := by decide +kernel
theorem dX5_spare_124 : decode cX5_spare 124 = .ok (.iinc 6 1, 3) := by decide +kernel
theorem dX5_spare_127 : decode cX5_spare 127 = .ok (.goto (-48), 3) := by decide +kernel
theorem dX5_spare_130 : decode cX5_spare 130 = .ok (.aload_n 0, 1) := by decide +kernel
theorem dX5_spare_131 : decode cX5_spare 131 = .ok (.iload_n 1, 1) := by decide +kernel
theorem dX5_spare_132 : decode cX5_spare 132 = .ok (.invokevirtual 135, 3) := by decide +kernel
theorem dX5_spare_135 : decode cX5_spare 135 = .ok (.aload_n 0, 1) := by decide +kernel
theorem dX5_spare_136 : decode cX5_spare 136 = .ok (.aload_n 0, 1) := by decide +kernel
theorem dX5_spare_137 : decode cX5_spare 137 = .ok (.iload_n 3, 1) := by decide +kernel
theorem dX5_spare_138 : decode cX5_spare 138 = .ok (.iload 5, 2) := by decide +kernel
theorem dX5_spare_140 : decode cX5_spare 140 = .ok (.iconst (-1), 1) := by decide +kernel
theorem dX5_spare_141 : decode cX5_spare 141 = .ok (.ixor, 1) := by decide +kernel
theorem dX5_spare_142 : decode cX5_spare 142 = .ok (.iand, 1) := by decide +kernel
theorem dX5_spare_143 : decode cX5_spare 143 = .ok (.invokevirtual 145, 3) := by decide +kernel
theorem dX5_spare_146 : decode cX5_spare 146 = .ok (.iload_n 2, 1) := by decide +kernel
theorem dX5_spare_147 : decode cX5_spare 147 = .ok (.if_icmp .gt 8, 3) := by decide +kernel
theorem dX5_spare_150 : decode cX5_spare 150 = .ok (.iload 5, 2) := by decide +kernel
theorem dX5_spare_152 : decode cX5_spare 152 = .ok (.goto 5, 3) := by decide +kernel
theorem dX5_spare_155 : decode cX5_spare 155 = .ok (.iload 4, 2) := by decide +kernel
theorem dX5_spare_157 : decode cX5_spare 157 = .ok (.invokevirtual 154, 3) := by decide +kernel
theorem dX5_spare_160 : decode cX5_spare 160 = .ok (.istore 4, 2) := by decide +kernel
theorem dX5_spare_162 : decode cX5_spare 162 = .ok (.iinc 5 1, 3) := by decide +kernel
theorem dX5_spare_165 : decode cX5_spare 165 = .ok (.goto (-113), 3) := by decide +kernel
theorem dX5_spare_168 : decode cX5_spare 168 = .ok (.iload 4, 2) := by decide +kernel
theorem dX5_spare_170 : decode cX5_spare 170 = .ok (.ifCond .ge 12, 3) := by decide +kernel
theorem dX5_spare_173 : decode cX5_spare 173 = .ok (.aload_n 0, 1) := by decide +kernel
theorem dX5_spare_174 : decode cX5_spare 174 = .ok (.ldc 80, 2) := by decide +kernel
theorem dX5_spare_176 : decode cX5_spare 176 = .ok (.invokevirtual 61, 3) := by decide +kernel
theorem dX5_spare_179 : decode cX5_spare 179 = .ok (.goto 5, 3) := by decide +kernel
theorem dX5_spare_182 : decode cX5_spare 182 = .ok (.iload 4, 2) := by decide +kernel
theorem dX5_spare_184 : decode cX5_spare 184 = .ok (.ireturn, 1) := by decide +kernel
theorem dX5_kind_0 : decode cX5_kind 0 = .ok (.aload_n 0, 1) := by decide +kernel
theorem dX5_kind_1 : decode cX5_kind 1 = .ok (.iload_n 1, 1) := by decide +kernel
theorem dX5_kind_2 : decode cX5_kind 2 = .ok (.invokevirtual 93, 3) := by decide +kernel
theorem dX5_kind_5 : decode cX5_kind 5 = .ok (.ifCond .ne 10, 3) := by decide +kernel
theorem dX5_kind_8 : decode cX5_kind 8 = .ok (.aload_n 0, 1) := by decide +kernel
theorem dX5_kind_9 : decode cX5_kind 9 = .ok (.ldc 41, 2) := by decide +kernel
theorem dX5_kind_11 : decode cX5_kind 11 = .ok (.invokevirtual 61, 3) := by decide +kernel
theorem dX5_kind_14 : decode cX5_kind 14 = .ok (.ireturn, 1) := by decide +kernel
theorem dX5_kind_15 : decode cX5_kind 15 = .ok (.aload_n 0, 1) := by decide +kernel
theorem dX5_kind_16 : decode cX5_kind 16 = .ok (.iload_n 1, 1) := by decide +kernel
theorem dX5_kind_17 : decode cX5_kind 17 = .ok (.iconst 0, 1) := by decide +kernel
theorem dX5_kind_18 : decode cX5_kind 18 = .ok (.invokevirtual 87, 3) := by decide +kernel
theorem dX5_kind_21 : decode cX5_kind 21 = .ok (.istore_n 2, 1) := by decide +kernel
theorem dX5_kind_22 : decode cX5_kind 22 = .ok (.aload_n 0, 1) := by decide +kernel
theorem dX5_kind_23 : decode cX5_kind 23 = .ok (.bipush 101, 2) := by decide +kernel
theorem dX5_kind_25 : decode cX5_kind 25 = .ok (.invokevirtual 177, 3) := by decide +kernel
theorem dX5_kind_28 : decode cX5_kind 28 = .ok (.iconst 0, 1) := by decide +kernel
theorem dX5_kind_29 : decode cX5_kind 29 = .ok (.istore_n 3, 1) := by decide +kernel
theorem dX5_kind_30 : decode cX5_kind 30 = .ok (.iload_n 3, 1) := by decide +kernel
theorem dX5_kind_31 : decode cX5_kind 31 = .ok (.iconst 5, 1) := by decide +kernel
theorem dX5_kind_32 : decode cX5_kind 32 = .ok (.if_icmp .gt 37, 3) := by decide +kernel
theorem dX5_kind_35 : decode cX5_kind 35 = .ok (.aload_n 0, 1) := by decide +kernel
theorem dX5_kind_36 : decode cX5_kind 36 = .ok (.getfield 7, 3) := by decide +kernel
theorem dX5_kind_39 : decode cX5_kind 39 = .ok (.iload_n 1, 1) := by decide +kernel
theorem dX5_kind_40 : decode cX5_kind 40 = .ok (.iconst 0, 1) := by decide +kernel
theorem dX5_kind_41 : decode cX5_kind 41 = .ok (.invokestatic 54, 3) := by decide +kernel
theorem dX5_kind_44 : decode cX5_kind 44 = .ok (.iload_n 3, 1) := by decide +kernel
theorem dX5_kind_45 : decode cX5_kind 45 = .ok (.iastore, 1) := by decide +kernel
theorem dX5_kind_46 : decode cX5_kind 46 = .ok (.aload_n 0, 1) := by decide +kernel
theorem dX5_kind_47 : decode cX5_kind 47 = .ok (.iload_n 3, 1) := by decide +kernel
theorem dX5_kind_48 : decode cX5_kind 48 = .ok (.aload_n 0, 1) := by decide +kernel
theorem dX5_kind_49 : decode cX5_kind 49 = .ok (.iload_n 1, 1) := by decide +kernel
theorem dX5_kind_50 : decode cX5_kind 50 = .ok (.iconst 1, 1) := by decide +kernel
theorem dX5_kind_51 : decode cX5_kind 51 = .ok (.invokestatic 54, 3) := by decide +kernel
theorem dX5_kind_54 : decode cX5_kind 54 = .ok (.iconst 0, 1) := by decide +kernel
theorem dX5_kind_55 : decode cX5_kind 55 = .ok (.bipush 100, 2) := by decide +kernel
theorem dX5_kind_57 : decode cX5_kind 57 = .ok (.invokevirtual 160, 3) := by decide +kernel
theorem dX5_kind_60 : decode cX5_kind 60 = .ok (.invokevirtual 180, 3) := by decide +kernel
theorem dX5_kind_63 : decode cX5_kind 63 = .ok (.iinc 3 1, 3) := by decide +kernel
theorem dX5_kind_66 : decode cX5_kind 66 = .ok (.goto (-36), 3) := by decide +kernel
theorem dX5_kind_69 : decode cX5_kind 69 = .ok (.aload_n 0, 1) := by decide +kernel
theorem dX5_kind_70 : decode cX5_kind 70 = .ok (.getfield 7, 3) := by decide +kernel
theorem dX5_kind_73 : decode cX5_kind 73 = .ok (.iload_n 1, 1) := by decide +kernel
theorem dX5_kind_74 : decode cX5_kind 74 = .ok (.iconst 0, 1) := by decide +kernel
theorem dX5_kind_75 : decode cX5_kind 75 = .ok (.invokestatic 54, 3) := by decide +kernel
theorem dX5_kind_78 : decode cX5_kind 78 = .ok (.iload_n 2, 1) := by decide +kernel
theorem dX5_kind_79 : decode cX5_kind 79 = .ok (.iastore, 1) := by decide +kernel
theorem dX5_kind_80 : decode cX5_kind 80 = .ok (.aload_n 0, 1) := by decide +kernel
theorem dX5_kind_81 : decode cX5_kind 81 = .ok (.invokevirtual 184, 3) := by decide +kernel
theorem dX5_kind_84 : decode cX5_kind 84 = .ok (.ireturn, 1) := by decide +kernel
theorem dX5_most_0 : decode cX5_most 0 = .ok (.aload_n 0, 1) := by decide +kernel
theorem dX5_most_1 : decode cX5_most 1 = .ok (.iload_n 1, 1) := by decide +kernel
theorem dX5_most_2 : decode cX5_most 2 = .ok (.invokevirtual 93, 3) := by decide +kernel
theorem dX5_most_5 : decode cX5_most 5 = .ok (.ifCond .eq 15, 3) := by decide +kernel
theorem dX5_most_8 : decode cX5_most 8 = .ok (.iload_n 2, 1) := by decide +kernel
theorem dX5_most_9 : decode cX5_most 9 = .ok (.i2l, 1) := by decide +kernel
theorem dX5_most_10 : decode cX5_most 10 = .ok (.lconst 1, 1) := by decide +kernel
theorem dX5_most_11 : decode cX5_most 11 = .ok (.ldc2_w 131, 3) := by decide +kernel
theorem dX5_most_14 : decode cX5_most 14 = .ok (.invokestatic 42, 3) := by decide +kernel
theorem dX5_most_17 : decode cX5_most 17 = .ok (.ifCond .ne 10, 3) := by decide +kernel
theorem dX5_most_20 : decode cX5_most 20 = .ok (.aload_n 0, 1) := by decide +kernel
theorem dX5_most_21 : decode cX5_most 21 = .ok (.ldc 41, 2) := by decide +kernel
theorem dX5_most_23 : decode cX5_most 23 = .ok (.invokevirtual 61, 3) := by decide +kernel
theorem dX5_most_26 : decode cX5_most 26 = .ok (.ireturn, 1) := by decide +kernel
theorem dX5_most_27 : decode cX5_most 27 = .ok (.iload_n 1, 1) := by decide +kernel
theorem dX5_most_28 : decode cX5_most 28 = .ok (.iconst 1, 1) := by decide +kernel
theorem dX5_most_29 : decode cX5_most 29 = .ok (.invokestatic 54, 3) := by decide +kernel
theorem dX5_most_32 : decode cX5_most 32 = .ok (.istore_n 3, 1) := by decide +kernel
theorem dX5_most_33 : decode cX5_most 33 = .ok (.aload_n 0, 1) := by decide +kernel
theorem dX5_most_34 : decode cX5_most 34 = .ok (.getfield 7, 3) := by decide +kernel
theorem dX5_most_37 : decode cX5_most 37 = .ok (.iload_n 3, 1) := by decide +kernel
theorem dX5_most_38 : decode cX5_most 38 = .ok (.iaload, 1) := by decide +kernel
theorem dX5_most_39 : decode cX5_most 39 = .ok (.istore 4, 2) := by decide +kernel
theorem dX5_most_41 : decode cX5_most 41 = .ok (.iconst (-1), 1) := by decide +kernel
theorem dX5_most_42 : decode cX5_most 42 = .ok (.istore 5, 2) := by decide +kernel
theorem dX5_most_44 : decode cX5_most 44 = .ok (.bipush 99, 2) := by decide +kernel
theorem dX5_most_46 : decode cX5_most 46 = .ok (.istore 6, 2) := by decide +kernel
theorem dX5_most_48 : decode cX5_most 48 = .ok (.iload 6, 2) := by decide +kernel
theorem dX5_most_50 : decode cX5_most 50 = .ok (.ifCond .lt 39, 3) := by decide +kernel
theorem dX5_most_53 : decode cX5_most 53 = .ok (.iload 5, 2) := by decide +kernel
theorem dX5_most_55 : decode cX5_most 55 = .ok (.ifCond .ge 34, 3) := by decide +kernel
theorem dX5_most_58 : decode cX5_most 58 = .ok (.aload_n 0, 1) := by decide +kernel
theorem dX5_most_59 : decode cX5_most 59 = .ok (.getfield 7, 3) := by decide +kernel
theorem dX5_most_62 : decode cX5_most 62 = .ok (.iload_n 3, 1) := by decide +kernel
theorem dX5_most_63 : decode cX5_most 63 = .ok (.iload 6, 2) := by decide +kernel
theorem dX5_most_65 : decode cX5_most 65 = .ok (.iastore, 1) := by decide +kernel
theorem dX5_most_66 : decode cX5_most 66 = .ok (.aload_n 0, 1) := by decide +kernel
theorem dX5_most_67 : decode cX5_most 67 = .ok (.iload_n 3, 1) := by decide +kernel
theorem dX5_most_68 : decode cX5_most 68 = .ok (.iload_n 2, 1) := by decide +kernel
theorem dX5_most_69 : decode cX5_most 69 = .ok (.invokevirtual 157, 3) := by decide +kernel
theorem dX5_most_72 : decode cX5_most 72 = .ok (.ifCond .ne 8, 3) := by decide +kernel
theorem dX5_most_75 : decode cX5_most 75 = .ok (.iload 6, 2) := by decide +kernel
theorem dX5_most_77 : decode cX5_most 77 = .ok (.goto 4, 3) := by decide +kernel
theorem dX5_most_80 : decode cX5_most 80 = .ok (.iconst (-1), 1) := by decide +kernel
theorem dX5_most_81 : decode cX5_most 81 = .ok (.istore 5, 2) := by decide +kernel
theorem dX5_most_83 : decode cX5_most 83 = .ok (.iinc 6 (-1), 3) := by decide +kernel
theorem dX5_most_86 : decode cX5_most 86 = .ok (.goto (-38), 3) := by decide +kernel
theorem dX5_most_89 : decode cX5_most 89 = .ok (.aload_n 0, 1) := by decide +kernel
theorem dX5_most_90 : decode cX5_most 90 = .ok (.getfield 7, 3) := by decide +kernel
theorem dX5_most_93 : decode cX5_most 93 = .ok (.iload_n 3, 1) := by decide +kernel
theorem dX5_most_94 : decode cX5_most 94 = .ok (.iload 4, 2) := by decide +kernel
theorem dX5_most_96 : decode cX5_most 96 = .ok (.iastore, 1) := by decide +kernel
theorem dX5_most_97 : decode cX5_most 97 = .ok (.iload 5, 2) := by decide +kernel
theorem dX5_most_99 : decode cX5_most 99 = .ok (.ifCond .ge 12, 3) := by decide +kernel
theorem dX5_most_102 : decode cX5_most 102 = .ok (.aload_n 0, 1) := by decide +kernel
theorem dX5_most_103 : decode cX5_most 103 = .ok (.ldc 80, 2) := by decide +kernel
theorem dX5_most_105 : decode cX5_most 105 = .ok (.invokevirtual 61, 3) := by decide +kernel
theorem dX5_most_108 : decode cX5_most 108 = .ok (.goto 5, 3) := by decide +kernel
theorem dX5_most_111 : decode cX5_most 111 = .ok (.iload 5, 2) := by decide +kernel
theorem dX5_most_113 : decode cX5_most 113 = .ok (.ireturn, 1) := by decide +kernel
theorem dX5_begin_0 : decode cX5_begin 0 = .ok (.iload_n 1, 1) := by decide +kernel
theorem dX5_begin_1 : decode cX5_begin 1 = .ok (.i2l, 1) := by decide +kernel
theorem dX5_begin_2 : decode cX5_begin 2 = .ok (.lconst 1, 1) := by decide +kernel
theorem dX5_begin_3 : decode cX5_begin 3 = .ok (.ldc2_w 131, 3) := by decide +kernel
theorem dX5_begin_6 : decode cX5_begin 6 = .ok (.invokestatic 42, 3) := by decide +kernel
theorem dX5_begin_9 : decode cX5_begin 9 = .ok (.ifCond .ne 10, 3) := by decide +kernel
theorem dX5_begin_12 : decode cX5_begin 12 = .ok (.aload_n 0, 1) := by decide +kernel
theorem dX5_begin_13 : decode cX5_begin 13 = .ok (.ldc 41, 2) := by decide +kernel
theorem dX5_begin_15 : decode cX5_begin 15 = .ok (.invokevirtual 61, 3) := by decide +kernel
theorem dX5_begin_18 : decode cX5_begin 18 = .ok (.ireturn, 1) := by decide +kernel
theorem dX5_begin_19 : decode cX5_begin 19 = .ok (.aload_n 0, 1) := by decide +kernel
theorem dX5_begin_20 : decode cX5_begin 20 = .ok (.ldc 133, 2) := by decide +kernel
theorem dX5_begin_22 : decode cX5_begin 22 = .ok (.invokevirtual 177, 3) := by decide +kernel
theorem dX5_begin_25 : decode cX5_begin 25 = .ok (.aload_n 0, 1) := by decide +kernel
theorem dX5_begin_26 : decode cX5_begin 26 = .ok (.invokevirtual 151, 3) := by decide +kernel
theorem dX5_begin_29 : decode cX5_begin 29 = .ok (.iconst 0, 1) := by decide +kernel
theorem dX5_begin_30 : decode cX5_begin 30 = .ok (.istore_n 2, 1) := by decide +kernel
theorem dX5_begin_31 : decode cX5_begin 31 = .ok (.iload_n 2, 1) := by decide +kernel
theorem dX5_begin_32 : decode cX5_begin 32 = .ok (.aload_n 0, 1) := by decide +kernel
theorem dX5_begin_33 : decode cX5_begin 33 = .ok (.getfield 7, 3) := by decide +kernel
theorem dX5_begin_36 : decode cX5_begin 36 = .ok (.iconst 1, 1) := by decide +kernel
theorem dX5_begin_37 : decode cX5_begin 37 = .ok (.iaload, 1) := by decide +kernel
theorem dX5_begin_38 : decode cX5_begin 38 = .ok (.if_icmp .ge 35, 3) := by decide +kernel
theorem dX5_begin_41 : decode cX5_begin 41 = .ok (.aload_n 0, 1) := by decide +kernel
theorem dX5_begin_42 : decode cX5_begin 42 = .ok (.getfield 7, 3) := by decide +kernel
theorem dX5_begin_45 : decode cX5_begin 45 = .ok (.iconst 4, 1) := by decide +kernel
theorem dX5_begin_46 : decode cX5_begin 46 = .ok (.iload_n 2, 1) := by decide +kernel
theorem dX5_begin_47 : decode cX5_begin 47 = .ok (.iastore, 1) := by decide +kernel
theorem dX5_begin_48 : decode cX5_begin 48 = .ok (.aload_n 0, 1) := by decide +kernel
theorem dX5_begin_49 : decode cX5_begin 49 = .ok (.iload_n 1, 1) := by decide +kernel
theorem dX5_begin_50 : decode cX5_begin 50 = .ok (.invokevirtual 135, 3) := by decide +kernel
theorem dX5_begin_53 : decode cX5_begin 53 = .ok (.aload_n 0, 1) := by decide +kernel
theorem dX5_begin_54 : decode cX5_begin 54 = .ok (.iload_n 2, 1) := by decide +kernel
theorem dX5_begin_55 : decode cX5_begin 55 = .ok (.aload_n 0, 1) := by decide +kernel
theorem dX5_begin_56 : decode cX5_begin 56 = .ok (.aload_n 0, 1) := by decide +kernel
theorem dX5_begin_57 : decode cX5_begin 57 = .ok (.iconst 1, 1) := by decide +kernel
theorem dX5_begin_58 : decode cX5_begin 58 = .ok (.invokevirtual 142, 3) := by decide +kernel
theorem dX5_begin_61 : decode cX5_begin 61 = .ok (.invokevirtual 154, 3) := by decide +kernel
theorem dX5_begin_64 : decode cX5_begin 64 = .ok (.invokevirtual 180, 3) := by decide +kernel
theorem dX5_begin_67 : decode cX5_begin 67 = .ok (.iinc 2 1, 3) := by decide +kernel
theorem dX5_begin_70 : decode cX5_begin 70 = .ok (.goto (-39), 3) := by decide +kernel
theorem dX5_begin_73 : decode cX5_begin 73 = .ok (.aload_n 0, 1) := by decide +kernel
theorem dX5_begin_74 : decode cX5_begin 74 = .ok (.invokevirtual 184, 3) := by decide +kernel
theorem dX5_begin_77 : decode cX5_begin 77 = .ok (.ireturn, 1) := by decide +kernel
theorem dX5_last_0 : decode cX5_last 0 = .ok (.iconst (-1), 1) := by decide +kernel
theorem dX5_last_1 : decode cX5_last 1 = .ok (.istore_n 1, 1) := by decide +kernel
theorem dX5_last_2 : decode cX5_last 2 = .ok (.iconst (-1), 1) := by decide +kernel
theorem dX5_last_3 : decode cX5_last 3 = .ok (.istore_n 2, 1) := by decide +kernel
theorem dX5_last_4 : decode cX5_last 4 = .ok (.iconst 0, 1) := by decide +kernel
theorem dX5_last_5 : decode cX5_last 5 = .ok (.istore_n 3, 1) := by decide +kernel
theorem dX5_last_6 : decode cX5_last 6 = .ok (.iload_n 3, 1) := by decide +kernel
theorem dX5_last_7 : decode cX5_last 7 = .ok (.aload_n 0, 1) := by decide +kernel
theorem dX5_last_8 : decode cX5_last 8 = .ok (.getfield 7, 3) := by decide +kernel
theorem dX5_last_11 : decode cX5_last 11 = .ok (.iconst 0, 1) := by decide +kernel
theorem dX5_last_12 : decode cX5_last 12 = .ok (.iaload, 1) := by decide +kernel
theorem dX5_last_13 : decode cX5_last 13 = .ok (.if_icmp .ge 49, 3) := by decide +kernel
theorem dX5_last_16 : decode cX5_last 16 = .ok (.aload_n 0, 1) := by decide +kernel
theorem dX5_last_17 : decode cX5_last 17 = .ok (.iload_n 3, 1) := by decide +kernel
theorem dX5_last_18 : decode cX5_last 18 = .ok (.iconst 1, 1) := by decide +kernel
theorem dX5_last_19 : decode cX5_last 19 = .ok (.invokestatic 54, 3) := by decide +kernel
theorem dX5_last_22 : decode cX5_last 22 = .ok (.iconst 0, 1) := by decide +kernel
theorem dX5_last_23 : decode cX5_last 23 = .ok (.sipush 200, 3) := by decide +kernel
theorem dX5_last_26 : decode cX5_last 26 = .ok (.invokevirtual 160, 3) := by decide +kernel
theorem dX5_last_29 : decode cX5_last 29 = .ok (.istore 4, 2) := by decide +kernel
theorem dX5_last_31 : decode cX5_last 31 = .ok (.iload 4, 2) := by decide +kernel
theorem dX5_last_33 : decode cX5_last 33 = .ok (.iload_n 2, 1) := by decide +kernel
theorem dX5_last_34 : decode cX5_last 34 = .ok (.if_icmp .le 7, 3) := by decide +kernel
theorem dX5_last_37 : decode cX5_last 37 = .ok (.iload_n 3, 1) := by decide +kernel
theorem dX5_last_38 : decode cX5_last 38 = .ok (.goto 4, 3) := by decide +kernel
theorem dX5_last_41 : decode cX5_last 41 = .ok (.iload_n 1, 1) := by decide +kernel
theorem dX5_last_42 : decode cX5_last 42 = .ok (.istore_n 1, 1) := by decide +kernel
theorem dX5_last_43 : decode cX5_last 43 = .ok (.iload 4, 2) := by decide +kernel
theorem dX5_last_45 : decode cX5_last 45 = .ok (.iload_n 2, 1) := by decide +kernel
theorem dX5_last_46 : decode cX5_last 46 = .ok (.if_icmp .le 8, 3) := by decide +kernel
theorem dX5_last_49 : decode cX5_last 49 = .ok (.iload 4, 2) := by decide +kernel
theorem dX5_last_51 : decode cX5_last 51 = .ok (.goto 4, 3) := by decide +kernel
theorem dX5_last_54 : decode cX5_last 54 = .ok (.iload_n 2, 1) := by decide +kernel
theorem dX5_last_55 : decode cX5_last 55 = .ok (.istore_n 2, 1) := by decide +kernel
theorem dX5_last_56 : decode cX5_last 56 = .ok (.iinc 3 1, 3) := by decide +kernel
theorem dX5_last_59 : decode cX5_last 59 = .ok (.goto (-53), 3) := by decide +kernel
theorem dX5_last_62 : decode cX5_last 62 = .ok (.iload_n 1, 1) := by decide +kernel
theorem dX5_last_63 : decode cX5_last 63 = .ok (.ifCond .ge 12, 3) := by decide +kernel
theorem dX5_last_66 : decode cX5_last 66 = .ok (.aload_n 0, 1) := by decide +kernel
theorem dX5_last_67 : decode cX5_last 67 = .ok (.ldc 80, 2) := by decide +kernel
theorem dX5_last_69 : decode cX5_last 69 = .ok (.invokevirtual 61, 3) := by decide +kernel
theorem dX5_last_72 : decode cX5_last 72 = .ok (.goto 4, 3) := by decide +kernel
theorem dX5_last_75 : decode cX5_last 75 = .ok (.iload_n 1, 1) := by decide +kernel
theorem dX5_last_76 : decode cX5_last 76 = .ok (.ireturn, 1) := by decide +kernel
theorem dX5_feed_0 : decode cX5_feed 0 = .ok (.iload_n 2, 1) := by decide +kernel
theorem dX5_feed_1 : decode cX5_feed 1 = .ok (.i2l, 1) := by decide +kernel
theorem dX5_feed_2 : decode cX5_feed 2 = .ok (.lconst 1, 1) := by decide +kernel
theorem dX5_feed_3 : decode cX5_feed 3 = .ok (.ldc2_w 194, 3) := by decide +kernel
theorem dX5_feed_6 : decode cX5_feed 6 = .ok (.invokestatic 42, 3) := by decide +kernel
theorem dX5_feed_9 : decode cX5_feed 9 = .ok (.ifCond .ne 10, 3) := by decide +kernel
theorem dX5_feed_12 : decode cX5_feed 12 = .ok (.aload_n 0, 1) := by decide +kernel
theorem dX5_feed_13 : decode cX5_feed 13 = .ok (.ldc 41, 2) := by decide +kernel
theorem dX5_feed_15 : decode cX5_feed 15 = .ok (.invokevirtual 61, 3) := by decide +kernel
theorem dX5_feed_18 : decode cX5_feed 18 = .ok (.ireturn, 1) := by decide +kernel
theorem dX5_feed_19 : decode cX5_feed 19 = .ok (.aload_n 0, 1) := by decide +kernel
theorem dX5_feed_20 : decode cX5_feed 20 = .ok (.getfield 196, 3) := by decide +kernel
theorem dX5_feed_23 : decode cX5_feed 23 = .ok (.iload_n 2, 1) := by decide +kernel
theorem dX5_feed_24 : decode cX5_feed 24 = .ok (.iadd, 1) := by decide +kernel
theorem dX5_feed_25 : decode cX5_feed 25 = .ok (.bipush 120, 2) := by decide +kernel
theorem dX5_feed_27 : decode cX5_feed 27 = .ok (.if_icmp .le 10, 3) := by decide +kernel
theorem dX5_feed_30 : decode cX5_feed 30 = .ok (.aload_n 0, 1) := by decide +kernel
theorem dX5_feed_31 : decode cX5_feed 31 = .ok (.ldc 65, 2) := by decide +kernel
theorem dX5_feed_33 : decode cX5_feed 33 = .ok (.invokevirtual 61, 3) := by decide +kernel
theorem dX5_feed_36 : decode cX5_feed 36 = .ok (.ireturn, 1) := by decide +kernel
theorem dX5_feed_37 : decode cX5_feed 37 = .ok (.iload_n 2, 1) := by decide +kernel
theorem dX5_feed_38 : decode cX5_feed 38 = .ok (.iconst 1, 1) := by decide +kernel
theorem dX5_feed_39 : decode cX5_feed 39 = .ok (.isub, 1) := by decide +kernel
theorem dX5_feed_40 : decode cX5_feed 40 = .ok (.istore_n 3, 1) := by decide +kernel
theorem dX5_feed_41 : decode cX5_feed 41 = .ok (.iload_n 3, 1) := by decide +kernel
theorem dX5_feed_42 : decode cX5_feed 42 = .ok (.ifCond .lt 38, 3) := by decide +kernel
theorem dX5_feed_45 : decode cX5_feed 45 = .ok (.aload_n 0, 1) := by decide +kernel
theorem dX5_feed_46 : decode cX5_feed 46 = .ok (.getfield 25, 3) := by decide +kernel
theorem dX5_feed_49 : decode cX5_feed 49 = .ok (.aload_n 0, 1) := by decide +kernel
theorem dX5_feed_50 : decode cX5_feed 50 = .ok (.getfield 196, 3) := by decide +kernel
theorem dX5_feed_53 : decode cX5_feed 53 = .ok (.iload_n 1, 1) := by decide +kernel
theorem dX5_feed_54 : decode cX5_feed 54 = .ok (.bipush 8, 2) := by decide +kernel
theorem dX5_feed_56 : decode cX5_feed 56 = .ok (.iload_n 3, 1) := by decide +kernel
theorem dX5_feed_57 : decode cX5_feed 57 = .ok (.imul, 1) := by decide +kernel
theorem dX5_feed_58 : decode cX5_feed 58 = .ok (.ishr, 1) := by decide +kernel
theorem dX5_feed_59 : decode cX5_feed 59 = .ok (.sipush 255, 3) := by decide +kernel
theorem dX5_feed_62 : decode cX5_feed 62 = .ok (.iand, 1) := by decide +kernel
theorem dX5_feed_63 : decode cX5_feed 63 = .ok (.iastore, 1) := by decide +kernel
theorem dX5_feed_64 : decode cX5_feed 64 = .ok (.aload_n 0, 1) := by decide +kernel
theorem dX5_feed_65 : decode cX5_feed 65 = .ok (.dup, 1) := by decide +kernel
theorem dX5_feed_66 : decode cX5_feed 66 = .ok (.getfield 196, 3) := by decide +kernel
theorem dX5_feed_69 : decode cX5_feed 69 = .ok (.iconst 1, 1) := by decide +kernel
theorem dX5_feed_70 : decode cX5_feed 70 = .ok (.iadd, 1) := by decide +kernel
theorem dX5_feed_71 : decode cX5_feed 71 = .ok (.putfield 196, 3) := by decide +kernel
theorem dX5_feed_74 : decode cX5_feed 74 = .ok (.iinc 3 (-1), 3) := by decide +kernel
theorem dX5_feed_77 : decode cX5_feed 77 = .ok (.goto (-36), 3) := by decide +kernel
theorem dX5_feed_80 : decode cX5_feed 80 = .ok (.aload_n 0, 1) := by decide +kernel
theorem dX5_feed_81 : decode cX5_feed 81 = .ok (.getfield 196, 3) := by decide +kernel
theorem dX5_feed_84 : decode cX5_feed 84 = .ok (.ireturn, 1) := by decide +kernel
theorem dX5_wipe_0 : decode cX5_wipe 0 = .ok (.aload_n 0, 1) := by decide +kernel
theorem dX5_wipe_1 : decode cX5_wipe 1 = .ok (.getfield 196, 3) := by decide +kernel
theorem dX5_wipe_4 : decode cX5_wipe 4 = .ok (.istore_n 1, 1) := by decide +kernel
theorem dX5_wipe_5 : decode cX5_wipe 5 = .ok (.aload_n 0, 1) := by decide +kernel
theorem dX5_wipe_6 : decode cX5_wipe 6 = .ok (.iconst 0, 1) := by decide +kernel
theorem dX5_wipe_7 : decode cX5_wipe 7 = .ok (.putfield 196, 3) := by decide +kernel
theorem dX5_wipe_10 : decode cX5_wipe 10 = .ok (.iload_n 1, 1) := by decide +kernel
theorem dX5_wipe_11 : decode cX5_wipe 11 = .ok (.ireturn, 1) := by decide +kernel
theorem dX5_byteAt_0 : decode cX5_byteAt 0 = .ok (.iload_n 1, 1) := by decide +kernel
theorem dX5_byteAt_1 : decode cX5_byteAt 1 = .ok (.aload_n 0, 1) := by decide +kernel
theorem dX5_byteAt_2 : decode cX5_byteAt 2 = .ok (.getfield 196, 3) := by decide +kernel
theorem dX5_byteAt_5 : decode cX5_byteAt 5 = .ok (.if_icmp .ge 12, 3) := by decide +kernel
theorem dX5_byteAt_8 : decode cX5_byteAt 8 = .ok (.aload_n 0, 1) := by decide +kernel
theorem dX5_byteAt_9 : decode cX5_byteAt 9 = .ok (.getfield 25, 3) := by decide +kernel
theorem dX5_byteAt_12 : decode cX5_byteAt 12 = .ok (.iload_n 1, 1) := by decide +kernel
theorem dX5_byteAt_13 : decode cX5_byteAt 13 = .ok (.iaload, 1) := by decide +kernel
theorem dX5_byteAt_14 : decode cX5_byteAt 14 = .ok (.goto 4, 3) := by decide +kernel
theorem dX5_byteAt_17 : decode cX5_byteAt 17 = .ok (.iconst (-1), 1) := by decide +kernel
theorem dX5_byteAt_18 : decode cX5_byteAt 18 = .ok (.ireturn, 1) := by decide +kernel
theorem dX5_isLetter_0 : decode cX5_isLetter 0 = .ok (.iload_n 0, 1) := by decide +kernel
theorem dX5_isLetter_1 : decode cX5_isLetter 1 = .ok (.i2l, 1) := by decide +kernel
theorem dX5_isLetter_2 : decode cX5_isLetter 2 = .ok (.ldc2_w 199, 3) := by decide +kernel
theorem dX5_isLetter_5 : decode cX5_isLetter 5 = .ok (.ldc2_w 201, 3) := by decide +kernel
theorem dX5_isLetter_8 : decode cX5_isLetter 8 = .ok (.invokestatic 42, 3) := by decide +kernel
theorem dX5_isLetter_11 : decode cX5_isLetter 11 = .ok (.ireturn, 1) := by decide +kernel
theorem dX5_isDigit_0 : decode cX5_isDigit 0 = .ok (.iload_n 0, 1) := by decide +kernel
theorem dX5_isDigit_1 : decode cX5_isDigit 1 = .ok (.i2l, 1) := by decide +kernel
theorem dX5_isDigit_2 : decode cX5_isDigit 2 = .ok (.ldc2_w 203, 3) := by decide +kernel
theorem dX5_isDigit_5 : decode cX5_isDigit 5 = .ok (.ldc2_w 205, 3) := by decide +kernel
theorem dX5_isDigit_8 : decode cX5_isDigit 8 = .ok (.invokestatic 42, 3) := by decide +kernel
theorem dX5_isDigit_11 : decode cX5_isDigit 11 = .ok (.ireturn, 1) := by decide +kernel
theorem dX5_token_0 : decode cX5_token 0 = .ok (.aload_n 0, 1) := by decide +kernel
theorem dX5_token_1 : decode cX5_token 1 = .ok (.aload_n 0, 1) := by decide +kernel
theorem dX5_token_2 : decode cX5_token 2 = .ok (.getfield 207, 3) := by decide +kernel
theorem dX5_token_5 : decode cX5_token 5 = .ok (.putfield 210, 3) := by decide +kernel
theorem dX5_token_8 : decode cX5_token 8 = .ok (.aload_n 0, 1) := by decide +kernel
theorem dX5_token_9 : decode cX5_token 9 = .ok (.aload_n 0, 1) := by decide +kernel
theorem dX5_token_10 : decode cX5_token 10 = .ok (.getfield 210, 3) := by decide +kernel
theorem dX5_token_13 : decode cX5_token 13 = .ok (.invokevirtual 213, 3) := by decide +kernel
theorem dX5_token_16 : decode cX5_token 16 = .ok (.bipush 32, 2) := by decide +kernel
theorem dX5_token_18 : decode cX5_token 18 = .ok (.if_icmp .ne 16, 3) := by decide +kernel
theorem dX5_token_21 : decode cX5_token 21 = .ok (.aload_n 0, 1) := by decide +kernel
theorem dX5_token_22 : decode cX5_token 22 = .ok (.dup, 1) := by decide +kernel
theorem dX5_token_23 : decode cX5_token 23 = .ok (.getfield 210, 3) := by decide +kernel
theorem dX5_token_26 : decode cX5_token 26 = .ok (.iconst 1, 1) := by decide +kernel
theorem dX5_token_27 : decode cX5_token 27 = .ok (.iadd, 1) := by decide +kernel
theorem dX5_token_28 : decode cX5_token 28 = .ok (.putfield 210, 3) := by decide +kernel
theorem dX5_token_31 : decode cX5_token 31 = .ok (.goto (-23), 3) := by decide +kernel
theorem dX5_token_34 : decode cX5_token 34 = .ok (.aload_n 0, 1) := by decide +kernel
theorem dX5_token_35 : decode cX5_token 35 = .ok (.aload_n 0, 1) := by decide +kernel
theorem dX5_token_36 : decode cX5_token 36 = .ok (.getfield 210, 3) := by decide +kernel
theorem dX5_token_39 : decode cX5_token 39 = .ok (.invokevirtual 213, 3) := by decide +kernel
theorem dX5_token_42 : decode cX5_token 42 = .ok (.invokestatic 216, 3) := by decide +kernel
theorem dX5_token_45 : decode cX5_token 45 = .ok (.istore_n 1, 1) := by decide +kernel
theorem dX5_token_46 : decode cX5_token 46 = .ok (.aload_n 0, 1) := by decide +kernel
theorem dX5_token_47 : decode cX5_token 47 = .ok (.aload_n 0, 1) := by decide +kernel
theorem dX5_token_48 : decode cX5_token 48 = .ok (.getfield 210, 3) := by decide +kernel
theorem dX5_token_51 : decode cX5_token 51 = .ok (.invokevirtual 213, 3) := by decide +kernel
theorem dX5_token_54 : decode cX5_token 54 = .ok (.invokestatic 219, 3) := by decide +kernel
theorem dX5_token_57 : decode cX5_token 57 = .ok (.istore_n 2, 1) := by decide +kernel
theorem dX5_token_58 : decode cX5_token 58 = .ok (.aload_n 0, 1) := by decide +kernel
theorem dX5_token_59 : decode cX5_token 59 = .ok (.aload_n 0, 1) := by decide +kernel
theorem dX5_token_60 : decode cX5_token 60 = .ok (.getfield 210, 3) := by decide +kernel
theorem dX5_token_63 : decode cX5_token 63 = .ok (.aload_n 0, 1) := by decide +kernel
theorem dX5_token_64 : decode cX5_token 64 = .ok (.getfield 196, 3) := by decide +kernel
theorem dX5_token_67 : decode cX5_token 67 = .ok (.if_icmp .ge 12, 3) := by decide +kernel
theorem dX5_token_70 : decode cX5_token 70 = .ok (.aload_n 0, 1) := by decide +kernel
theorem dX5_token_71 : decode cX5_token 71 = .ok (.getfield 210, 3) := by decide +kernel
theorem dX5_token_74 : decode cX5_token 74 = .ok (.iconst 1, 1) := by decide +kernel
theorem dX5_token_75 : decode cX5_token 75 = .ok (.iadd, 1) := by decide +kernel
theorem dX5_token_76 : decode cX5_token 76 = .ok (.goto 7, 3) := by decide +kernel
theorem dX5_token_79 : decode cX5_token 79 = .ok (.aload_n 0, 1) := by decide +kernel
theorem dX5_token_80 : decode cX5_token 80 = .ok (.getfield 210, 3) := by decide +kernel
theorem dX5_token_83 : decode cX5_token 83 = .ok (.putfield 207, 3) := by decide +kernel
theorem dX5_token_86 : decode cX5_token 86 = .ok (.iload_n 1, 1) := by decide +kernel
theorem dX5_token_87 : decode cX5_token 87 = .ok (.ifCond .eq 17, 3) := by decide +kernel
theorem dX5_token_90 : decode cX5_token 90 = .ok (.aload_n 0, 1) := by decide +kernel
theorem dX5_token_91 : decode cX5_token 91 = .ok (.aload_n 0, 1) := by decide +kernel
theorem dX5_token_92 : decode cX5_token 92 = .ok (.getfield 207, 3) := by decide +kernel
theorem dX5_token_95 : decode cX5_token 95 = .ok (.invokevirtual 213, 3) := by decide +kernel
theorem dX5_token_98 : decode cX5_token 98 = .ok (.invokestatic 216, 3) := by decide +kernel
theorem dX5_token_101 : decode cX5_token 101 = .ok (.ifCond .ne 21, 3) := by decide +kernel
theorem dX5_token_104 : decode cX5_token 104 = .ok (.iload_n 2, 1) := by decide +kernel
theorem dX5_token_105 : decode cX5_token 105 = .ok (.ifCond .eq 30, 3) := by decide +kernel
theorem dX5_token_108 : decode cX5_token 108 = .ok (.aload_n 0, 1) := by decide +kernel
theorem dX5_token_109 : decode cX5_token 109 = .ok (.aload_n 0, 1) := by decide +kernel
theorem dX5_token_110 : decode cX5_token 110 = .ok (.getfield 207, 3) := by decide +kernel
theorem dX5_token_113 : decode cX5_token 113 = .ok (.invokevirtual 213, 3) := by decide +kernel
theorem dX5_token_116 : decode cX5_token 116 = .ok (.invokestatic 219, 3) := by decide +kernel
theorem dX5_token_119 : decode cX5_token 119 = .ok (.ifCond .eq 16, 3) := by decide +kernel
theorem dX5_token_122 : decode cX5_token 122 = .ok (.aload_n 0, 1) := by decide +kernel
theorem dX5_token_123 : decode cX5_token 123 = .ok (.dup, 1) := by decide +kernel
theorem dX5_token_124 : decode cX5_token 124 = .ok (.getfield 207, 3) := by decide +kernel
theorem dX5_token_127 : decode cX5_token 127 = .ok (.iconst 1, 1) := by decide +kernel
theorem dX5_token_128 : decode cX5_token 128 = .ok (.iadd, 1) := by decide +kernel
theorem dX5_token_129 : decode cX5_token 129 = .ok (.putfield 207, 3) := by decide +kernel
theorem dX5_token_132 : decode cX5_token 132 = .ok (.goto (-46), 3) := by decide +kernel
theorem dX5_token_135 : decode cX5_token 135 = .ok (.return_, 1) := by decide +kernel
theorem dX5_must_0 : decode cX5_must 0 = .ok (.aload_n 0, 1) := by decide +kernel
theorem dX5_must_1 : decode cX5_must 1 = .ok (.aload_n 0, 1) := by decide +kernel
theorem dX5_must_2 : decode cX5_must 2 = .ok (.getfield 222, 3) := by decide +kernel
theorem dX5_must_5 : decode cX5_must 5 = .ok (.ifCond .ne 7, 3) := by decide +kernel
theorem dX5_must_8 : decode cX5_must 8 = .ok (.iload_n 1, 1) := by decide +kernel
theorem dX5_must_9 : decode cX5_must 9 = .ok (.ifCond .ne 7, 3) := by decide +kernel
theorem dX5_must_12 : decode cX5_must 12 = .ok (.iconst 1, 1) := by decide +kernel
theorem dX5_must_13 : decode cX5_must 13 = .ok (.goto 4, 3) := by decide +kernel
theorem dX5_must_16 : decode cX5_must 16 = .ok (.iconst 0, 1) := by decide +kernel
theorem dX5_must_17 : decode cX5_must 17 = .ok (.putfield 222, 3) := by decide +kernel
theorem dX5_must_20 : decode cX5_must 20 = .ok (.aload_n 0, 1) := by decide +kernel
theorem dX5_must_21 : decode cX5_must 21 = .ok (.getfield 222, 3) := by decide +kernel
theorem dX5_must_24 : decode cX5_must 24 = .ok (.ifCond .ne 7, 3) := by decide +kernel
theorem dX5_must_27 : decode cX5_must 27 = .ok (.aload_n 0, 1) := by decide +kernel
theorem dX5_must_28 : decode cX5_must 28 = .ok (.invokevirtual 226, 3) := by decide +kernel
theorem dX5_must_31 : decode cX5_must 31 = .ok (.return_, 1) := by decide +kernel
theorem dX5_word_0 : decode cX5_word 0 = .ok (.lconst 0, 1) := by decide +kernel
theorem dX5_word_1 : decode cX5_word 1 = .ok (.lstore_n 1, 1) := by decide +kernel
theorem dX5_word_2 : decode cX5_word 2 = .ok (.aload_n 0, 1) := by decide +kernel
theorem dX5_word_3 : decode cX5_word 3 = .ok (.getfield 210, 3) := by decide +kernel
theorem dX5_word_6 : decode cX5_word 6 = .ok (.istore_n 3, 1) := by decide +kernel
theorem dX5_word_7 : decode cX5_word 7 = .ok (.iload_n 3, 1) := by decide +kernel
theorem dX5_word_8 : decode cX5_word 8 = .ok (.aload_n 0, 1) := by decide +kernel
theorem dX5_word_9 : decode cX5_word 9 = .ok (.getfield 207, 3) := by decide +kernel
theorem dX5_word_12 : decode cX5_word 12 = .ok (.if_icmp .ge 38, 3) := by decide +kernel
theorem dX5_word_15 : decode cX5_word 15 = .ok (.lload_n 1, 1) := by decide +kernel
theorem dX5_word_16 : decode cX5_word 16 = .ok (.ldc2_w 229, 3) := by decide +kernel
theorem dX5_word_19 : decode cX5_word 19 = .ok (.lcmp, 1) := by decide +kernel
theorem dX5_word_20 : decode cX5_word 20 = .ok (.ifCond .le 7, 3) := by decide +kernel
theorem dX5_word_23 : decode cX5_word 23 = .ok (.lload_n 1, 1) := by decide +kernel
theorem dX5_word_24 : decode cX5_word 24 = .ok (.goto 19, 3) := by decide +kernel
theorem dX5_word_27 : decode cX5_word 27 = .ok (.ldc2_w 231, 3) := by decide +kernel
theorem dX5_word_30 : decode cX5_word 30 = .ok (.lload_n 1, 1) := by decide +kernel
theorem dX5_word_31 : decode cX5_word 31 = .ok (.lmul, 1) := by decide +kernel
theorem dX5_word_32 : decode cX5_word 32 = .ok (.aload_n 0, 1) := by decide +kernel
theorem dX5_word_33 : decode cX5_word 33 = .ok (.getfield 25, 3) := by decide +kernel
theorem dX5_word_36 : decode cX5_word 36 = .ok (.iload_n 3, 1) := by decide +kernel
theorem dX5_word_37 : decode cX5_word 37 = .ok (.iaload, 1) := by decide +kernel
theorem dX5_word_38 : decode cX5_word 38 = .ok (.bipush 96, 2) := by decide +kernel
theorem dX5_word_40 : decode cX5_word 40 = .ok (.isub, 1) := by decide +kernel
theorem dX5_word_41 : decode cX5_word 41 = .ok (.i2l, 1) := by decide +kernel
theorem dX5_word_42 : decode cX5_word 42 = .ok (.ladd, 1) := by decide +kernel
theorem dX5_word_43 : decode cX5_word 43 = .ok (.lstore_n 1, 1) := by decide +kernel
theorem dX5_word_44 : decode cX5_word 44 = .ok (.iinc 3 1, 3) := by decide +kernel
theorem dX5_word_47 : decode cX5_word 47 = .ok (.goto (-40), 3) := by decide +kernel
theorem dX5_word_50 : decode cX5_word 50 = .ok (.aload_n 0, 1) := by decide +kernel
theorem dX5_word_51 : decode cX5_word 51 = .ok (.getfield 222, 3) := by decide +kernel
theorem dX5_word_54 : decode cX5_word 54 = .ok (.ifCond .ne 17, 3) := by decide +kernel
theorem dX5_word_57 : decode cX5_word 57 = .ok (.aload_n 0, 1) := by decide +kernel
theorem dX5_word_58 : decode cX5_word 58 = .ok (.aload_n 0, 1) := by decide +kernel
theorem dX5_word_59 : decode cX5_word 59 = .ok (.getfield 210, 3) := by decide +kernel
theorem dX5_word_62 : decode cX5_word 62 = .ok (.invokevirtual 213, 3) := by decide +kernel
theorem dX5_word_65 : decode cX5_word 65 = .ok (.invokestatic 216, 3) := by decide +kernel
theorem dX5_word_68 : decode cX5_word 68 = .ok (.ifCond .ne 7, 3) := by decide +kernel
theorem dX5_word_71 : decode cX5_word 71 = .ok (.lconst 0, 1) := by decide +kernel
theorem dX5_word_72 : decode cX5_word 72 = .ok (.goto 4, 3) := by decide +kernel
theorem dX5_word_75 : decode cX5_word 75 = .ok (.lload_n 1, 1) := by decide +kernel
theorem dX5_word_76 : decode cX5_word 76 = .ok (.lreturn, 1) := by decide +kernel
theorem dX5_number_0 : decode cX5_number 0 = .ok (.aload_n 0, 1) := by decide +kernel
theorem dX5_number_1 : decode cX5_number 1 = .ok (.getfield 222, 3) := by decide +kernel
theorem dX5_number_4 : decode cX5_number 4 = .ok (.ifCond .eq 4, 3) := by decide +kernel
theorem dX5_number_7 : decode cX5_number 7 = .ok (.return_, 1) := by decide +kernel
theorem dX5_number_8 : decode cX5_number 8 = .ok (.aload_n 0, 1) := by decide +kernel
theorem dX5_number_9 : decode cX5_number 9 = .ok (.aload_n 0, 1) := by decide +kernel
theorem dX5_number_10 : decode cX5_number 10 = .ok (.getfield 210, 3) := by decide +kernel
theorem dX5_number_13 : decode cX5_number 13 = .ok (.invokevirtual 213, 3) := by decide +kernel
theorem dX5_number_16 : decode cX5_number 16 = .ok (.invokestatic 219, 3) := by decide +kernel
theorem dX5_number_19 : decode cX5_number 19 = .ok (.istore_n 3, 1) := by decide +kernel
theorem dX5_number_20 : decode cX5_number 20 = .ok (.iconst 0, 1) := by decide +kernel
theorem dX5_number_21 : decode cX5_number 21 = .ok (.istore 4, 2) := by decide +kernel
theorem dX5_number_23 : decode cX5_number 23 = .ok (.aload_n 0, 1) := by decide +kernel
theorem dX5_number_24 : decode cX5_number 24 = .ok (.getfield 210, 3) := by decide +kernel
theorem dX5_number_27 : decode cX5_number 27 = .ok (.istore 5, 2) := by decide +kernel
theorem dX5_number_29 : decode cX5_number 29 = .ok (.iload 5, 2) := by decide +kernel
theorem dX5_number_31 : decode cX5_number 31 = .ok (.aload_n 0, 1) := by decide +kernel
theorem dX5_number_32 : decode cX5_number 32 = .ok (.getfield 207, 3) := by decide +kernel
theorem dX5_number_35 : decode cX5_number 35 = .ok (.if_icmp .ge 44, 3) := by decide +kernel
theorem dX5_number_38 : decode cX5_number 38 = .ok (.iload_n 3, 1) := by decide +kernel
theorem dX5_number_39 : decode cX5_number 39 = .ok (.ifCond .eq 40, 3) := by decide +kernel
theorem dX5_number_42 : decode cX5_number 42 = .ok (.iload 4, 2) := by decide +kernel
theorem dX5_number_44 : decode cX5_number 44 = .ok (.sipush 999, 3) := by decide +kernel
theorem dX5_number_47 : decode cX5_number 47 = .ok (.if_icmp .le 8, 3) := by decide +kernel
theorem dX5_number_50 : decode cX5_number 50 = .ok (.iload 4, 2) := by decide +kernel
theorem dX5_number_52 : decode cX5_number 52 = .ok (.goto 19, 3) := by decide +kernel
theorem dX5_number_55 : decode cX5_number 55 = .ok (.bipush 10, 2) := by decide +kernel
theorem dX5_number_57 : decode cX5_number 57 = .ok (.iload 4, 2) := by decide +kernel
theorem dX5_number_59 : decode cX5_number 59 = .ok (.imul, 1) := by decide +kernel
theorem dX5_number_60 : decode cX5_number 60 = .ok (.aload_n 0, 1) := by decide +kernel
theorem dX5_number_61 : decode cX5_number 61 = .ok (.getfield 25, 3) := by decide +kernel
theorem dX5_number_64 : decode cX5_number 64 = .ok (.iload 5, 2) := by decide +kernel
theorem dX5_number_66 : decode cX5_number 66 = .ok (.iaload, 1) := by decide +kernel
theorem dX5_number_67 : decode cX5_number 67 = .ok (.iadd, 1) := by decide +kernel
theorem dX5_number_68 : decode cX5_number 68 = .ok (.bipush 48, 2) := by decide +kernel
theorem dX5_number_70 : decode cX5_number 70 = .ok (.isub, 1) := by decide +kernel
theorem dX5_number_71 : decode cX5_number 71 = .ok (.istore 4, 2) := by decide +kernel
theorem dX5_number_73 : decode cX5_number 73 = .ok (.iinc 5 1, 3) := by decide +kernel
theorem dX5_number_76 : decode cX5_number 76 = .ok (.goto (-47), 3) := by decide +kernel
theorem dX5_number_79 : decode cX5_number 79 = .ok (.aload_n 0, 1) := by decide +kernel
theorem dX5_number_80 : decode cX5_number 80 = .ok (.iload 4, 2) := by decide +kernel
theorem dX5_number_82 : decode cX5_number 82 = .ok (.putfield 233, 3) := by decide +kernel
theorem dX5_number_85 : decode cX5_number 85 = .ok (.aload_n 0, 1) := by decide +kernel
theorem dX5_number_86 : decode cX5_number 86 = .ok (.iload_n 3, 1) := by decide +kernel
theorem dX5_number_87 : decode cX5_number 87 = .ok (.ifCond .eq 20, 3) := by decide +kernel
theorem dX5_number_90 : decode cX5_number 90 = .ok (.iload 4, 2) := by decide +kernel
theorem dX5_number_92 : decode cX5_number 92 = .ok (.i2l, 1) := by decide +kernel
theorem dX5_number_93 : decode cX5_number 93 = .ok (.iload_n 1, 1) := by decide +kernel
theorem dX5_number_94 : decode cX5_number 94 = .ok (.i2l, 1) := by decide +kernel
theorem dX5_number_95 : decode cX5_number 95 = .ok (.iload_n 2, 1) := by decide +kernel
theorem dX5_number_96 : decode cX5_number 96 = .ok (.i2l, 1) := by decide +kernel
theorem dX5_number_97 : decode cX5_number 97 = .ok (.invokestatic 42, 3) := by decide +kernel
theorem dX5_number_100 : decode cX5_number 100 = .ok (.ifCond .eq 7, 3) := by decide +kernel
theorem dX5_number_103 : decode cX5_number 103 = .ok (.iconst 1, 1) := by decide +kernel
theorem dX5_number_104 : decode cX5_number 104 = .ok (.goto 4, 3) := by decide +kernel
theorem dX5_number_107 : decode cX5_number 107 = .ok (.iconst 0, 1) := by decide +kernel
theorem dX5_number_108 : decode cX5_number 108 = .ok (.invokevirtual 236, 3) := by decide +kernel
theorem dX5_number_111 : decode cX5_number 111 = .ok (.return_, 1) := by decide +kernel
theorem dX5_kindHere_0 : decode cX5_kindHere 0 = .ok (.aload_n 0, 1) := by decide +kernel
theorem dX5_kindHere_1 : decode cX5_kindHere 1 = .ok (.invokevirtual 240, 3) := by decide +kernel
theorem dX5_kindHere_4 : decode cX5_kindHere 4 = .ok (.lstore_n 1, 1) := by decide +kernel
theorem dX5_kindHere_5 : decode cX5_kindHere 5 = .ok (.lload_n 1, 1) := by decide +kernel
theorem dX5_kindHere_6 : decode cX5_kindHere 6 = .ok (.ldc2_w 244, 3) := by decide +kernel
theorem dX5_kindHere_9 : decode cX5_kindHere 9 = .ok (.lcmp, 1) := by decide +kernel
theorem dX5_kindHere_10 : decode cX5_kindHere 10 = .ok (.ifCond .ne 7, 3) := by decide +kernel
theorem dX5_kindHere_13 : decode cX5_kindHere 13 = .ok (.iconst 0, 1) := by decide +kernel
theorem dX5_kindHere_14 : decode cX5_kindHere 14 = .ok (.goto 64, 3) := by decide +kernel
theorem dX5_kindHere_17 : decode cX5_kindHere 17 = .ok (.lload_n 1, 1) := by decide +kernel
theorem dX5_kindHere_18 : decode cX5_kindHere 18 = .ok (.ldc2_w 246, 3) := by decide +kernel
theorem dX5_kindHere_21 : decode cX5_kindHere 21 = .ok (.lcmp, 1) := by decide +kernel
theorem dX5_kindHere_22 : decode cX5_kindHere 22 = .ok (.ifCond .ne 7, 3) := by decide +kernel
theorem dX5_kindHere_25 : decode cX5_kindHere 25 = .ok (.iconst 1, 1) := by decide +kernel
theorem dX5_kindHere_26 : decode cX5_kindHere 26 = .ok (.goto 52, 3) := by decide +kernel
theorem dX5_kindHere_29 : decode cX5_kindHere 29 = .ok (.lload_n 1, 1) := by decide +kernel
theorem dX5_kindHere_30 : decode cX5_kindHere 30 = .ok (.ldc2_w 248, 3) := by decide +kernel
theorem dX5_kindHere_33 : decode cX5_kindHere 33 = .ok (.lcmp, 1) := by decide +kernel
theorem dX5_kindHere_34 : decode cX5_kindHere 34 = .ok (.ifCond .ne 7, 3) := by decide +kernel
theorem dX5_kindHere_37 : decode cX5_kindHere 37 = .ok (.iconst 2, 1) := by decide +kernel
theorem dX5_kindHere_38 : decode cX5_kindHere 38 = .ok (.goto 40, 3) := by decide +kernel
theorem dX5_kindHere_41 : decode cX5_kindHere 41 = .ok (.lload_n 1, 1) := by decide +kernel
theorem dX5_kindHere_42 : decode cX5_kindHere 42 = .ok (.ldc2_w 250, 3) := by decide +kernel
theorem dX5_kindHere_45 : decode cX5_kindHere 45 = .ok (.lcmp, 1) := by decide +kernel
theorem dX5_kindHere_46 : decode cX5_kindHere 46 = .ok (.ifCond .ne 7, 3) := by decide +kernel
theorem dX5_kindHere_49 : decode cX5_kindHere 49 = .ok (.iconst 3, 1) := by decide +kernel
theorem dX5_kindHere_50 : decode cX5_kindHere 50 = .ok (.goto 28, 3) := by decide +kernel
theorem dX5_kindHere_53 : decode cX5_kindHere 53 = .ok (.lload_n 1, 1) := by decide +kernel
theorem dX5_kindHere_54 : decode cX5_kindHere 54 = .ok (.ldc2_w 252, 3) := by decide +kernel
theorem dX5_kindHere_57 : decode cX5_kindHere 57 = .ok (.lcmp, 1) := by decide +kernel
theorem dX5_kindHere_58 : decode cX5_kindHere 58 = .ok (.ifCond .ne 7, 3) := by decide +kernel
theorem dX5_kindHere_61 : decode cX5_kindHere 61 = .ok (.iconst 4, 1) := by decide +kernel
theorem dX5_kindHere_62 : decode cX5_kindHere 62 = .ok (.goto 16, 3) := by decide +kernel
theorem dX5_kindHere_65 : decode cX5_kindHere 65 = .ok (.lload_n 1, 1) := by decide +kernel
theorem dX5_kindHere_66 : decode cX5_kindHere 66 = .ok (.ldc2_w 254, 3) := by decide +kernel
theorem dX5_kindHere_69 : decode cX5_kindHere 69 = .ok (.lcmp, 1) := by decide +kernel
theorem dX5_kindHere_70 : decode cX5_kindHere 70 = .ok (.ifCond .ne 7, 3) := by decide +kernel
theorem dX5_kindHere_73 : decode cX5_kindHere 73 = .ok (.iconst 5, 1) := by decide +kernel
theorem dX5_kindHere_74 : decode cX5_kindHere 74 = .ok (.goto 4, 3) := by decide +kernel
theorem dX5_kindHere_77 : decode cX5_kindHere 77 = .ok (.iconst (-1), 1) := by decide +kernel
theorem dX5_kindHere_78 : decode cX5_kindHere 78 = .ok (.ireturn, 1) := by decide +kernel
theorem dX5_partItem_0 : decode cX5_partItem 0 = .ok (.aload_n 0, 1) := by decide +kernel
theorem dX5_partItem_1 : decode cX5_partItem 1 = .ok (.invokevirtual 240, 3) := by decide +kernel
theorem dX5_partItem_4 : decode cX5_partItem 4 = .ok (.lload_n 1, 1) := by decide +kernel
theorem dX5_partItem_5 : decode cX5_partItem 5 = .ok (.lcmp, 1) := by decide +kernel
theorem dX5_partItem_6 : decode cX5_partItem 6 = .ok (.ifCond .ne 41, 3) := by decide +kernel
theorem dX5_partItem_9 : decode cX5_partItem 9 = .ok (.aload_n 0, 1) := by decide +kernel
theorem dX5_partItem_10 : decode cX5_partItem 10 = .ok (.iconst 1, 1) := by decide +kernel
theorem dX5_partItem_11 : decode cX5_partItem 11 = .ok (.invokevirtual 236, 3) := by decide +kernel
theorem dX5_partItem_14 : decode cX5_partItem 14 = .ok (.aload_n 0, 1) := by decide +kernel
theorem dX5_partItem_15 : decode cX5_partItem 15 = .ok (.iconst 0, 1) := by decide +kernel
theorem dX5_partItem_16 : decode cX5_partItem 16 = .ok (.iload 4, 2) := by decide +kernel
theorem dX5_partItem_18 : decode cX5_partItem 18 = .ok (.invokevirtual 256, 3) := by decide +kernel
theorem dX5_partItem_21 : decode cX5_partItem 21 = .ok (.aload_n 0, 1) := by decide +kernel
theorem dX5_partItem_22 : decode cX5_partItem 22 = .ok (.getfield 7, 3) := by decide +kernel
theorem dX5_partItem_25 : decode cX5_partItem 25 = .ok (.iload_n 3, 1) := by decide +kernel
theorem dX5_partItem_26 : decode cX5_partItem 26 = .ok (.aload_n 0, 1) := by decide +kernel
theorem dX5_partItem_27 : decode cX5_partItem 27 = .ok (.getfield 222, 3) := by decide +kernel
theorem dX5_partItem_30 : decode cX5_partItem 30 = .ok (.ifCond .eq 12, 3) := by decide +kernel
theorem dX5_partItem_33 : decode cX5_partItem 33 = .ok (.aload_n 0, 1) := by decide +kernel
theorem dX5_partItem_34 : decode cX5_partItem 34 = .ok (.getfield 7, 3) := by decide +kernel
theorem dX5_partItem_37 : decode cX5_partItem 37 = .ok (.iload_n 3, 1) := by decide +kernel
theorem dX5_partItem_38 : decode cX5_partItem 38 = .ok (.iaload, 1) := by decide +kernel
theorem dX5_partItem_39 : decode cX5_partItem 39 = .ok (.goto 7, 3) := by decide +kernel
theorem dX5_partItem_42 : decode cX5_partItem 42 = .ok (.aload_n 0, 1) := by decide +kernel
theorem dX5_partItem_43 : decode cX5_partItem 43 = .ok (.getfield 233, 3) := by decide +kernel
theorem dX5_partItem_46 : decode cX5_partItem 46 = .ok (.iastore, 1) := by decide +kernel
theorem dX5_partItem_47 : decode cX5_partItem 47 = .ok (.return_, 1) := by decide +kernel
theorem dX5_sheepItem_0 : decode cX5_sheepItem 0 = .ok (.aload_n 0, 1) := by decide +kernel
theorem dX5_sheepItem_1 : decode cX5_sheepItem 1 = .ok (.aload_n 0, 1) := by decide +kernel
theorem dX5_sheepItem_2 : decode cX5_sheepItem 2 = .ok (.getfield 7, 3) := by decide +kernel
theorem dX5_sheepItem_5 : decode cX5_sheepItem 5 = .ok (.iconst 0, 1) := by decide +kernel
theorem dX5_sheepItem_6 : decode cX5_sheepItem 6 = .ok (.iaload, 1) := by decide +kernel
theorem dX5_sheepItem_7 : decode cX5_sheepItem 7 = .ok (.bipush 8, 2) := by decide +kernel
theorem dX5_sheepItem_9 : decode cX5_sheepItem 9 = .ok (.if_icmp .ge 7, 3) := by decide +kernel
theorem dX5_sheepItem_12 : decode cX5_sheepItem 12 = .ok (.iconst 1, 1) := by decide +kernel
theorem dX5_sheepItem_13 : decode cX5_sheepItem 13 = .ok (.goto 4, 3) := by decide +kernel
theorem dX5_sheepItem_16 : decode cX5_sheepItem 16 = .ok (.iconst 0, 1) := by decide +kernel
theorem dX5_sheepItem_17 : decode cX5_sheepItem 17 = .ok (.invokevirtual 236, 3) := by decide +kernel
theorem dX5_sheepItem_20 : decode cX5_sheepItem 20 = .ok (.aload_n 0, 1) := by decide +kernel
theorem dX5_sheepItem_21 : decode cX5_sheepItem 21 = .ok (.getfield 222, 3) := by decide +kernel
theorem dX5_sheepItem_24 : decode cX5_sheepItem 24 = .ok (.ifCond .ne 23, 3) := by decide +kernel
theorem dX5_sheepItem_27 : decode cX5_sheepItem 27 = .ok (.aload_n 0, 1) := by decide +kernel
theorem dX5_sheepItem_28 : decode cX5_sheepItem 28 = .ok (.iload_n 1, 1) := by decide +kernel
theorem dX5_sheepItem_29 : decode cX5_sheepItem 29 = .ok (.invokevirtual 84, 3) := by decide +kernel
theorem dX5_sheepItem_32 : decode cX5_sheepItem 32 = .ok (.istore_n 2, 1) := by decide +kernel
theorem dX5_sheepItem_33 : decode cX5_sheepItem 33 = .ok (.aload_n 0, 1) := by decide +kernel
theorem dX5_sheepItem_34 : decode cX5_sheepItem 34 = .ok (.ldc2_w 259, 3) := by decide +kernel
theorem dX5_sheepItem_37 : decode cX5_sheepItem 37 = .ok (.iload_n 2, 1) := by decide +kernel
theorem dX5_sheepItem_38 : decode cX5_sheepItem 38 = .ok (.iconst 1, 1) := by decide +kernel
theorem dX5_sheepItem_39 : decode cX5_sheepItem 39 = .ok (.invokestatic 54, 3) := by decide +kernel
theorem dX5_sheepItem_42 : decode cX5_sheepItem 42 = .ok (.bipush 99, 2) := by decide +kernel
theorem dX5_sheepItem_44 : decode cX5_sheepItem 44 = .ok (.invokevirtual 261, 3) := by decide +kernel
theorem dX5_sheepItem_47 : decode cX5_sheepItem 47 = .ok (.return_, 1) := by decide +kernel
theorem dX5_bitHere_0 : decode cX5_bitHere 0 = .ok (.aload_n 0, 1) := by decide +kernel
theorem dX5_bitHere_1 : decode cX5_bitHere 1 = .ok (.getfield 222, 3) := by decide +kernel
theorem dX5_bitHere_4 : decode cX5_bitHere 4 = .ok (.ifCond .ne 16, 3) := by decide +kernel
theorem dX5_bitHere_7 : decode cX5_bitHere 7 = .ok (.aload_n 0, 1) := by decide +kernel
theorem dX5_bitHere_8 : decode cX5_bitHere 8 = .ok (.invokevirtual 240, 3) := by decide +kernel
theorem dX5_bitHere_11 : decode cX5_bitHere 11 = .ok (.lload_n 1, 1) := by decide +kernel
theorem dX5_bitHere_12 : decode cX5_bitHere 12 = .ok (.lcmp, 1) := by decide +kernel
theorem dX5_bitHere_13 : decode cX5_bitHere 13 = .ok (.ifCond .ne 7, 3) := by decide +kernel
theorem dX5_bitHere_16 : decode cX5_bitHere 16 = .ok (.iconst 1, 1) := by decide +kernel
theorem dX5_bitHere_17 : decode cX5_bitHere 17 = .ok (.goto 4, 3) := by decide +kernel
theorem dX5_bitHere_20 : decode cX5_bitHere 20 = .ok (.iconst 0, 1) := by decide +kernel
theorem dX5_bitHere_21 : decode cX5_bitHere 21 = .ok (.istore 4, 2) := by decide +kernel
theorem dX5_bitHere_23 : decode cX5_bitHere 23 = .ok (.iload 4, 2) := by decide +kernel
theorem dX5_bitHere_25 : decode cX5_bitHere 25 = .ok (.ifCond .eq 8, 3) := by decide +kernel
theorem dX5_bitHere_28 : decode cX5_bitHere 28 = .ok (.aload_n 0, 1) := by decide +kernel
theorem dX5_bitHere_29 : decode cX5_bitHere 29 = .ok (.iconst 1, 1) := by decide +kernel
theorem dX5_bitHere_30 : decode cX5_bitHere 30 = .ok (.invokevirtual 236, 3) := by decide +kernel
theorem dX5_bitHere_33 : decode cX5_bitHere 33 = .ok (.iload 4, 2) := by decide +kernel
theorem dX5_bitHere_35 : decode cX5_bitHere 35 = .ok (.ifCond .eq 7, 3) := by decide +kernel
theorem dX5_bitHere_38 : decode cX5_bitHere 38 = .ok (.iload_n 3, 1) := by decide +kernel
theorem dX5_bitHere_39 : decode cX5_bitHere 39 = .ok (.goto 4, 3) := by decide +kernel
theorem dX5_bitHere_42 : decode cX5_bitHere 42 = .ok (.iconst 0, 1) := by decide +kernel
theorem dX5_bitHere_43 : decode cX5_bitHere 43 = .ok (.ireturn, 1) := by decide +kernel
theorem dX5_manItem_0 : decode cX5_manItem 0 = .ok (.aload_n 0, 1) := by decide +kernel
theorem dX5_manItem_1 : decode cX5_manItem 1 = .ok (.aload_n 0, 1) := by decide +kernel
theorem dX5_manItem_2 : decode cX5_manItem 2 = .ok (.getfield 7, 3) := by decide +kernel
theorem dX5_manItem_5 : decode cX5_manItem 5 = .ok (.iconst 1, 1) := by decide +kernel
theorem dX5_manItem_6 : decode cX5_manItem 6 = .ok (.iaload, 1) := by decide +kernel
theorem dX5_manItem_7 : decode cX5_manItem 7 = .ok (.bipush 6, 2) := by decide +kernel
theorem dX5_manItem_9 : decode cX5_manItem 9 = .ok (.if_icmp .ge 7, 3) := by decide +kernel
theorem dX5_manItem_12 : decode cX5_manItem 12 = .ok (.iconst 1, 1) := by decide +kernel
theorem dX5_manItem_13 : decode cX5_manItem 13 = .ok (.goto 4, 3) := by decide +kernel
theorem dX5_manItem_16 : decode cX5_manItem 16 = .ok (.iconst 0, 1) := by decide +kernel
theorem dX5_manItem_17 : decode cX5_manItem 17 = .ok (.invokevirtual 236, 3) := by decide +kernel
theorem dX5_manItem_20 : decode cX5_manItem 20 = .ok (.aload_n 0, 1) := by decide +kernel
theorem dX5_manItem_21 : decode cX5_manItem 21 = .ok (.ldc2_w 265, 3) := by decide +kernel
theorem dX5_manItem_24 : decode cX5_manItem 24 = .ok (.iconst 1, 1) := by decide +kernel
theorem dX5_manItem_25 : decode cX5_manItem 25 = .ok (.invokevirtual 267, 3) := by decide +kernel
theorem dX5_manItem_28 : decode cX5_manItem 28 = .ok (.istore_n 1, 1) := by decide +kernel
theorem dX5_manItem_29 : decode cX5_manItem 29 = .ok (.iload_n 1, 1) := by decide +kernel
theorem dX5_manItem_30 : decode cX5_manItem 30 = .ok (.aload_n 0, 1) := by decide +kernel
theorem dX5_manItem_31 : decode cX5_manItem 31 = .ok (.ldc2_w 271, 3) := by decide +kernel
theorem dX5_manItem_34 : decode cX5_manItem 34 = .ok (.iconst 2, 1) := by decide +kernel
theorem dX5_manItem_35 : decode cX5_manItem 35 = .ok (.invokevirtual 267, 3) := by decide +kernel
theorem dX5_manItem_38 : decode cX5_manItem 38 = .ok (.ior, 1) := by decide +kernel
theorem dX5_manItem_39 : decode cX5_manItem 39 = .ok (.istore_n 1, 1) := by decide +kernel
theorem dX5_manItem_40 : decode cX5_manItem 40 = .ok (.iload_n 1, 1) := by decide +kernel
theorem dX5_manItem_41 : decode cX5_manItem 41 = .ok (.aload_n 0, 1) := by decide +kernel
theorem dX5_manItem_42 : decode cX5_manItem 42 = .ok (.ldc2_w 273, 3) := by decide +kernel
theorem dX5_manItem_45 : decode cX5_manItem 45 = .ok (.iconst 4, 1) := by decide +kernel
theorem dX5_manItem_46 : decode cX5_manItem 46 = .ok (.invokevirtual 267, 3) := by decide +kernel
theorem dX5_manItem_49 : decode cX5_manItem 49 = .ok (.ior, 1) := by decide +kernel
theorem dX5_manItem_50 : decode cX5_manItem 50 = .ok (.istore_n 1, 1) := by decide +kernel
theorem dX5_manItem_51 : decode cX5_manItem 51 = .ok (.aload_n 0, 1) := by decide +kernel
theorem dX5_manItem_52 : decode cX5_manItem 52 = .ok (.getfield 222, 3) := by decide +kernel
theorem dX5_manItem_55 : decode cX5_manItem 55 = .ok (.ifCond .ne 23, 3) := by decide +kernel
theorem dX5_manItem_58 : decode cX5_manItem 58 = .ok (.aload_n 0, 1) := by decide +kernel
theorem dX5_manItem_59 : decode cX5_manItem 59 = .ok (.iload_n 1, 1) := by decide +kernel
theorem dX5_manItem_60 : decode cX5_manItem 60 = .ok (.invokevirtual 66, 3) := by decide +kernel
theorem dX5_manItem_63 : decode cX5_manItem 63 = .ok (.istore_n 2, 1) := by decide +kernel
theorem dX5_manItem_64 : decode cX5_manItem 64 = .ok (.aload_n 0, 1) := by decide +kernel
theorem dX5_manItem_65 : decode cX5_manItem 65 = .ok (.ldc2_w 275, 3) := by decide +kernel
theorem dX5_manItem_68 : decode cX5_manItem 68 = .ok (.iload_n 2, 1) := by decide +kernel
theorem dX5_manItem_69 : decode cX5_manItem 69 = .ok (.iconst 1, 1) := by decide +kernel
theorem dX5_manItem_70 : decode cX5_manItem 70 = .ok (.invokestatic 50, 3) := by decide +kernel
theorem dX5_manItem_73 : decode cX5_manItem 73 = .ok (.bipush 99, 2) := by decide +kernel
theorem dX5_manItem_75 : decode cX5_manItem 75 = .ok (.invokevirtual 261, 3) := by decide +kernel
theorem dX5_manItem_78 : decode cX5_manItem 78 = .ok (.return_, 1) := by decide +kernel
theorem dX5_item_0 : decode cX5_item 0 = .ok (.aload_n 0, 1) := by decide +kernel
theorem dX5_item_1 : decode cX5_item 1 = .ok (.invokevirtual 277, 3) := by decide +kernel
theorem dX5_item_4 : decode cX5_item 4 = .ok (.istore_n 1, 1) := by decide +kernel
theorem dX5_item_5 : decode cX5_item 5 = .ok (.iload_n 1, 1) := by decide +kernel
theorem dX5_item_6 : decode cX5_item 6 = .ok (.ifCond .lt 11, 3) := by decide +kernel
theorem dX5_item_9 : decode cX5_item 9 = .ok (.aload_n 0, 1) := by decide +kernel
theorem dX5_item_10 : decode cX5_item 10 = .ok (.iload_n 1, 1) := by decide +kernel
theorem dX5_item_11 : decode cX5_item 11 = .ok (.invokevirtual 280, 3) := by decide +kernel
theorem dX5_item_14 : decode cX5_item 14 = .ok (.goto 26, 3) := by decide +kernel
theorem dX5_item_17 : decode cX5_item 17 = .ok (.aload_n 0, 1) := by decide +kernel
theorem dX5_item_18 : decode cX5_item 18 = .ok (.invokevirtual 240, 3) := by decide +kernel
theorem dX5_item_21 : decode cX5_item 21 = .ok (.ldc2_w 283, 3) := by decide +kernel
theorem dX5_item_24 : decode cX5_item 24 = .ok (.lcmp, 1) := by decide +kernel
theorem dX5_item_25 : decode cX5_item 25 = .ok (.ifCond .ne 10, 3) := by decide +kernel
theorem dX5_item_28 : decode cX5_item 28 = .ok (.aload_n 0, 1) := by decide +kernel
theorem dX5_item_29 : decode cX5_item 29 = .ok (.invokevirtual 285, 3) := by decide +kernel
theorem dX5_item_32 : decode cX5_item 32 = .ok (.goto 8, 3) := by decide +kernel
theorem dX5_item_35 : decode cX5_item 35 = .ok (.aload_n 0, 1) := by decide +kernel
theorem dX5_item_36 : decode cX5_item 36 = .ok (.iconst 0, 1) := by decide +kernel
theorem dX5_item_37 : decode cX5_item 37 = .ok (.invokevirtual 236, 3) := by decide +kernel
theorem dX5_item_40 : decode cX5_item 40 = .ok (.return_, 1) := by decide +kernel
theorem dX5_fell_0 : decode cX5_fell 0 = .ok (.aload_n 0, 1) := by decide +kernel
theorem dX5_fell_1 : decode cX5_fell 1 = .ok (.invokevirtual 288, 3) := by decide +kernel
theorem dX5_fell_4 : decode cX5_fell 4 = .ok (.aload_n 0, 1) := by decide +kernel
theorem dX5_fell_5 : decode cX5_fell 5 = .ok (.iconst 0, 1) := by decide +kernel
theorem dX5_fell_6 : decode cX5_fell 6 = .ok (.putfield 222, 3) := by decide +kernel
theorem dX5_fell_9 : decode cX5_fell 9 = .ok (.aload_n 0, 1) := by decide +kernel
theorem dX5_fell_10 : decode cX5_fell 10 = .ok (.iconst 0, 1) := by decide +kernel
theorem dX5_fell_11 : decode cX5_fell 11 = .ok (.putfield 207, 3) := by decide +kernel
theorem dX5_fell_14 : decode cX5_fell 14 = .ok (.aload_n 0, 1) := by decide +kernel
theorem dX5_fell_15 : decode cX5_fell 15 = .ok (.invokevirtual 226, 3) := by decide +kernel
theorem dX5_fell_18 : decode cX5_fell 18 = .ok (.iconst 1, 1) := by decide +kernel
theorem dX5_fell_19 : decode cX5_fell 19 = .ok (.istore_n 1, 1) := by decide +kernel
theorem dX5_fell_20 : decode cX5_fell 20 = .ok (.aload_n 0, 1) := by decide +kernel
theorem dX5_fell_21 : decode cX5_fell 21 = .ok (.invokevirtual 291, 3) := by decide +kernel
theorem dX5_fell_24 : decode cX5_fell 24 = .ok (.aload_n 0, 1) := by decide +kernel
theorem dX5_fell_25 : decode cX5_fell 25 = .ok (.getfield 222, 3) := by decide +kernel
theorem dX5_fell_28 : decode cX5_fell 28 = .ok (.ifCond .ne 31, 3) := by decide +kernel
theorem dX5_fell_31 : decode cX5_fell 31 = .ok (.aload_n 0, 1) := by decide +kernel
theorem dX5_fell_32 : decode cX5_fell 32 = .ok (.aload_n 0, 1) := by decide +kernel
theorem dX5_fell_33 : decode cX5_fell 33 = .ok (.getfield 210, 3) := by decide +kernel
theorem dX5_fell_36 : decode cX5_fell 36 = .ok (.invokevirtual 213, 3) := by decide +kernel
theorem dX5_fell_39 : decode cX5_fell 39 = .ok (.bipush 59, 2) := by decide +kernel
theorem dX5_fell_41 : decode cX5_fell 41 = .ok (.if_icmp .ne 18, 3) := by decide +kernel
theorem dX5_fell_44 : decode cX5_fell 44 = .ok (.aload_n 0, 1) := by decide +kernel
theorem dX5_fell_45 : decode cX5_fell 45 = .ok (.iconst 1, 1) := by decide +kernel
theorem dX5_fell_46 : decode cX5_fell 46 = .ok (.invokevirtual 236, 3) := by decide +kernel
theorem dX5_fell_49 : decode cX5_fell 49 = .ok (.aload_n 0, 1) := by decide +kernel
theorem dX5_fell_50 : decode cX5_fell 50 = .ok (.invokevirtual 291, 3) := by decide +kernel
theorem dX5_fell_53 : decode cX5_fell 53 = .ok (.iinc 1 1, 3) := by decide +kernel
theorem dX5_fell_56 : decode cX5_fell 56 = .ok (.goto (-32), 3) := by decide +kernel
theorem dX5_fell_59 : decode cX5_fell 59 = .ok (.aload_n 0, 1) := by decide +kernel
theorem dX5_fell_60 : decode cX5_fell 60 = .ok (.aload_n 0, 1) := by decide +kernel
theorem dX5_fell_61 : decode cX5_fell 61 = .ok (.getfield 222, 3) := by decide +kernel
theorem dX5_fell_64 : decode cX5_fell 64 = .ok (.ifCond .ne 14, 3) := by decide +kernel
theorem dX5_fell_67 : decode cX5_fell 67 = .ok (.aload_n 0, 1) := by decide +kernel
theorem dX5_fell_68 : decode cX5_fell 68 = .ok (.getfield 210, 3) := by decide +kernel
theorem dX5_fell_71 : decode cX5_fell 71 = .ok (.aload_n 0, 1) := by decide +kernel
theorem dX5_fell_72 : decode cX5_fell 72 = .ok (.getfield 196, 3) := by decide +kernel
theorem dX5_fell_75 : decode cX5_fell 75 = .ok (.if_icmp .ge 7, 3) := by decide +kernel
theorem dX5_fell_78 : decode cX5_fell 78 = .ok (.iconst 1, 1) := by decide +kernel
theorem dX5_fell_79 : decode cX5_fell 79 = .ok (.goto 4, 3) := by decide +kernel
theorem dX5_fell_82 : decode cX5_fell 82 = .ok (.iconst 0, 1) := by decide +kernel
theorem dX5_fell_83 : decode cX5_fell 83 = .ok (.putfield 222, 3) := by decide +kernel
theorem dX5_fell_86 : decode cX5_fell 86 = .ok (.aload_n 0, 1) := by decide +kernel
theorem dX5_fell_87 : decode cX5_fell 87 = .ok (.getfield 222, 3) := by decide +kernel
theorem dX5_fell_90 : decode cX5_fell 90 = .ok (.ifCond .eq 7, 3) := by decide +kernel
theorem dX5_fell_93 : decode cX5_fell 93 = .ok (.aload_n 0, 1) := by decide +kernel
theorem dX5_fell_94 : decode cX5_fell 94 = .ok (.invokevirtual 294, 3) := by decide +kernel
theorem dX5_fell_97 : decode cX5_fell 97 = .ok (.aload_n 0, 1) := by decide +kernel
theorem dX5_fell_98 : decode cX5_fell 98 = .ok (.iconst 0, 1) := by decide +kernel
theorem dX5_fell_99 : decode cX5_fell 99 = .ok (.putfield 196, 3) := by decide +kernel
theorem dX5_fell_102 : decode cX5_fell 102 = .ok (.aload_n 0, 1) := by decide +kernel
theorem dX5_fell_103 : decode cX5_fell 103 = .ok (.getfield 222, 3) := by decide +kernel
theorem dX5_fell_106 : decode cX5_fell 106 = .ok (.ifCond .eq 12, 3) := by decide +kernel
theorem dX5_fell_109 : decode cX5_fell 109 = .ok (.iconst (-1), 1) := by decide +kernel
theorem dX5_fell_110 : decode cX5_fell 110 = .ok (.aload_n 0, 1) := by decide +kernel
theorem dX5_fell_111 : decode cX5_fell 111 = .ok (.getfield 210, 3) := by decide +kernel
theorem dX5_fell_114 : decode cX5_fell 114 = .ok (.isub, 1) := by decide +kernel
theorem dX5_fell_115 : decode cX5_fell 115 = .ok (.goto 4, 3) := by decide +kernel
theorem dX5_fell_118 : decode cX5_fell 118 = .ok (.iload_n 1, 1) := by decide +kernel
theorem dX5_fell_119 : decode cX5_fell 119 = .ok (.ireturn, 1) := by decide +kernel
theorem dX5_isOne_0 : decode cX5_isOne 0 = .ok (.iload_n 0, 1) := by decide +kernel
theorem dX5_isOne_1 : decode cX5_isOne 1 = .ok (.i2l, 1) := by decide +kernel
theorem dX5_isOne_2 : decode cX5_isOne 2 = .ok (.lconst 0, 1) := by decide +kernel
theorem dX5_isOne_3 : decode cX5_isOne 3 = .ok (.ldc2_w 297, 3) := by decide +kernel
theorem dX5_isOne_6 : decode cX5_isOne 6 = .ok (.invokestatic 42, 3) := by decide +kernel
theorem dX5_isOne_9 : decode cX5_isOne 9 = .ok (.ireturn, 1) := by decide +kernel
theorem dX5_sheet_0 : decode cX5_sheet 0 = .ok (.iload_n 1, 1) := by decide +kernel
theorem dX5_sheet_1 : decode cX5_sheet 1 = .ok (.invokestatic 299, 3) := by decide +kernel
theorem dX5_sheet_4 : decode cX5_sheet 4 = .ok (.ifCond .eq 25, 3) := by decide +kernel
theorem dX5_sheet_7 : decode cX5_sheet 7 = .ok (.iload_n 2, 1) := by decide +kernel
theorem dX5_sheet_8 : decode cX5_sheet 8 = .ok (.ifCond .eq 28, 3) := by decide +kernel
theorem dX5_sheet_11 : decode cX5_sheet 11 = .ok (.iload_n 2, 1) := by decide +kernel
theorem dX5_sheet_12 : decode cX5_sheet 12 = .ok (.bipush 8, 2) := by decide +kernel
theorem dX5_sheet_14 : decode cX5_sheet 14 = .ok (.if_icmp .eq 22, 3) := by decide +kernel
theorem dX5_sheet_17 : decode cX5_sheet 17 = .ok (.iload_n 2, 1) := by decide +kernel
theorem dX5_sheet_18 : decode cX5_sheet 18 = .ok (.bipush 16, 2) := by decide +kernel
theorem dX5_sheet_20 : decode cX5_sheet 20 = .ok (.if_icmp .eq 16, 3) := by decide +kernel
theorem dX5_sheet_23 : decode cX5_sheet 23 = .ok (.iload_n 2, 1) := by decide +kernel
theorem dX5_sheet_24 : decode cX5_sheet 24 = .ok (.bipush 64, 2) := by decide +kernel
theorem dX5_sheet_26 : decode cX5_sheet 26 = .ok (.if_icmp .eq 10, 3) := by decide +kernel
theorem dX5_sheet_29 : decode cX5_sheet 29 = .ok (.aload_n 0, 1) := by decide +kernel
theorem dX5_sheet_30 : decode cX5_sheet 30 = .ok (.ldc 41, 2) := by decide +kernel
theorem dX5_sheet_32 : decode cX5_sheet 32 = .ok (.invokevirtual 61, 3) := by decide +kernel
theorem dX5_sheet_35 : decode cX5_sheet 35 = .ok (.ireturn, 1) := by decide +kernel
theorem dX5_sheet_36 : decode cX5_sheet 36 = .ok (.iload_n 3, 1) := by decide +kernel
theorem dX5_sheet_37 : decode cX5_sheet 37 = .ok (.ifCond .ge 11, 3) := by decide +kernel
theorem dX5_sheet_40 : decode cX5_sheet 40 = .ok (.aload_n 0, 1) := by decide +kernel
theorem dX5_sheet_41 : decode cX5_sheet 41 = .ok (.ldc_w 302, 3) := by decide +kernel
theorem dX5_sheet_44 : decode cX5_sheet 44 = .ok (.invokevirtual 61, 3) := by decide +kernel
theorem dX5_sheet_47 : decode cX5_sheet 47 = .ok (.ireturn, 1) := by decide +kernel
theorem dX5_sheet_48 : decode cX5_sheet 48 = .ok (.iload_n 3, 1) := by decide +kernel
theorem dX5_sheet_49 : decode cX5_sheet 49 = .ok (.bipush 40, 2) := by decide +kernel
theorem dX5_sheet_51 : decode cX5_sheet 51 = .ok (.if_icmp .le 10, 3) := by decide +kernel
theorem dX5_sheet_54 : decode cX5_sheet 54 = .ok (.aload_n 0, 1) := by decide +kernel
theorem dX5_sheet_55 : decode cX5_sheet 55 = .ok (.ldc 41, 2) := by decide +kernel
theorem dX5_sheet_57 : decode cX5_sheet 57 = .ok (.invokevirtual 61, 3) := by decide +kernel
theorem dX5_sheet_60 : decode cX5_sheet 60 = .ok (.ireturn, 1) := by decide +kernel
theorem dX5_sheet_61 : decode cX5_sheet 61 = .ok (.aload_n 0, 1) := by decide +kernel
theorem dX5_sheet_62 : decode cX5_sheet 62 = .ok (.getfield 28, 3) := by decide +kernel
theorem dX5_sheet_65 : decode cX5_sheet 65 = .ok (.iload_n 1, 1) := by decide +kernel
theorem dX5_sheet_66 : decode cX5_sheet 66 = .ok (.iload_n 2, 1) := by decide +kernel
theorem dX5_sheet_67 : decode cX5_sheet 67 = .ok (.iastore, 1) := by decide +kernel
theorem dX5_sheet_68 : decode cX5_sheet 68 = .ok (.aload_n 0, 1) := by decide +kernel
theorem dX5_sheet_69 : decode cX5_sheet 69 = .ok (.getfield 31, 3) := by decide +kernel
theorem dX5_sheet_72 : decode cX5_sheet 72 = .ok (.iload_n 1, 1) := by decide +kernel
theorem dX5_sheet_73 : decode cX5_sheet 73 = .ok (.iload_n 2, 1) := by decide +kernel
theorem dX5_sheet_74 : decode cX5_sheet 74 = .ok (.ifCond .ne 7, 3) := by decide +kernel
theorem dX5_sheet_77 : decode cX5_sheet 77 = .ok (.iconst 0, 1) := by decide +kernel
theorem dX5_sheet_78 : decode cX5_sheet 78 = .ok (.goto 4, 3) := by decide +kernel
theorem dX5_sheet_81 : decode cX5_sheet 81 = .ok (.iload_n 3, 1) := by decide +kernel
theorem dX5_sheet_82 : decode cX5_sheet 82 = .ok (.iastore, 1) := by decide +kernel
theorem dX5_sheet_83 : decode cX5_sheet 83 = .ok (.iconst 0, 1) := by decide +kernel
theorem dX5_sheet_84 : decode cX5_sheet 84 = .ok (.istore 4, 2) := by decide +kernel
theorem dX5_sheet_86 : decode cX5_sheet 86 = .ok (.iload 4, 2) := by decide +kernel
theorem dX5_sheet_88 : decode cX5_sheet 88 = .ok (.bipush 40, 2) := by decide +kernel
theorem dX5_sheet_90 : decode cX5_sheet 90 = .ok (.if_icmp .ge 22, 3) := by decide +kernel
theorem dX5_sheet_93 : decode cX5_sheet 93 = .ok (.aload_n 0, 1) := by decide +kernel
theorem dX5_sheet_94 : decode cX5_sheet 94 = .ok (.getfield 34, 3) := by decide +kernel
theorem dX5_sheet_97 : decode cX5_sheet 97 = .ok (.bipush 40, 2) := by decide +kernel
theorem dX5_sheet_99 : decode cX5_sheet 99 = .ok (.iload_n 1, 1) := by decide +kernel
theorem dX5_sheet_100 : decode cX5_sheet 100 = .ok (.imul, 1) := by decide +kernel
theorem dX5_sheet_101 : decode cX5_sheet 101 = .ok (.iload 4, 2) := by decide +kernel
theorem dX5_sheet_103 : decode cX5_sheet 103 = .ok (.iadd, 1) := by decide +kernel
theorem dX5_sheet_104 : decode cX5_sheet 104 = .ok (.lconst 0, 1) := by decide +kernel
theorem dX5_sheet_105 : decode cX5_sheet 105 = .ok (.lastore, 1) := by decide +kernel
theorem dX5_sheet_106 : decode cX5_sheet 106 = .ok (.iinc 4 1, 3) := by decide +kernel
theorem dX5_sheet_109 : decode cX5_sheet 109 = .ok (.goto (-23), 3) := by decide +kernel
theorem dX5_sheet_112 : decode cX5_sheet 112 = .ok (.aload_n 0, 1) := by decide +kernel
theorem dX5_sheet_113 : decode cX5_sheet 113 = .ok (.getfield 31, 3) := by decide +kernel
theorem dX5_sheet_116 : decode cX5_sheet 116 = .ok (.iload_n 1, 1) := by decide +kernel
theorem dX5_sheet_117 : decode cX5_sheet 117 = .ok (.iaload, 1) := by decide +kernel
theorem dX5_sheet_118 : decode cX5_sheet 118 = .ok (.ireturn, 1) := by decide +kernel
theorem dX5_narrowed_0 : decode cX5_narrowed 0 = .ok (.iload_n 0, 1) := by decide +kernel
theorem dX5_narrowed_1 : decode cX5_narrowed 1 = .ok (.bipush 8, 2) := by decide +kernel
theorem dX5_narrowed_3 : decode cX5_narrowed 3 = .ok (.if_icmp .ne 10, 3) := by decide +kernel
theorem dX5_narrowed_6 : decode cX5_narrowed 6 = .ok (.lload_n 1, 1) := by decide +kernel
theorem dX5_narrowed_7 : decode cX5_narrowed 7 = .ok (.l2i, 1) := by decide +kernel
theorem dX5_narrowed_8 : decode cX5_narrowed 8 = .ok (.i2b, 1) := by decide +kernel
theorem dX5_narrowed_9 : decode cX5_narrowed 9 = .ok (.i2l, 1) := by decide +kernel
theorem dX5_narrowed_10 : decode cX5_narrowed 10 = .ok (.goto 17, 3) := by decide +kernel
theorem dX5_narrowed_13 : decode cX5_narrowed 13 = .ok (.iload_n 0, 1) := by decide +kernel
theorem dX5_narrowed_14 : decode cX5_narrowed 14 = .ok (.bipush 16, 2) := by decide +kernel
theorem dX5_narrowed_16 : decode cX5_narrowed 16 = .ok (.if_icmp .ne 10, 3) := by decide +kernel
theorem dX5_narrowed_19 : decode cX5_narrowed 19 = .ok (.lload_n 1, 1) := by decide +kernel
theorem dX5_narrowed_20 : decode cX5_narrowed 20 = .ok (.l2i, 1) := by decide +kernel
theorem dX5_narrowed_21 : decode cX5_narrowed 21 = .ok (.i2s, 1) := by decide +kernel
theorem dX5_narrowed_22 : decode cX5_narrowed 22 = .ok (.i2l, 1) := by decide +kernel
theorem dX5_narrowed_23 : decode cX5_narrowed 23 = .ok (.goto 4, 3) := by decide +kernel
theorem dX5_narrowed_26 : decode cX5_narrowed 26 = .ok (.lload_n 1, 1) := by decide +kernel
theorem dX5_narrowed_27 : decode cX5_narrowed 27 = .ok (.lreturn, 1) := by decide +kernel
theorem dX5_wrongSheet_0 : decode cX5_wrongSheet 0 = .ok (.iload_n 1, 1) := by decide +kernel
theorem dX5_wrongSheet_1 : decode cX5_wrongSheet 1 = .ok (.invokestatic 299, 3) := by decide +kernel
theorem dX5_wrongSheet_4 : decode cX5_wrongSheet 4 = .ok (.ifCond .ne 8, 3) := by decide +kernel
theorem dX5_wrongSheet_7 : decode cX5_wrongSheet 7 = .ok (.ldc 41, 2) := by decide +kernel
theorem dX5_wrongSheet_9 : decode cX5_wrongSheet 9 = .ok (.goto 19, 3) := by decide +kernel
theorem dX5_wrongSheet_12 : decode cX5_wrongSheet 12 = .ok (.aload_n 0, 1) := by decide +kernel
theorem dX5_wrongSheet_13 : decode cX5_wrongSheet 13 = .ok (.getfield 28, 3) := by decide +kernel
theorem dX5_wrongSheet_16 : decode cX5_wrongSheet 16 = .ok (.iload_n 1, 1) := by decide +kernel
theorem dX5_wrongSheet_17 : decode cX5_wrongSheet 17 = .ok (.iaload, 1) := by decide +kernel
theorem dX5_wrongSheet_18 : decode cX5_wrongSheet 18 = .ok (.ifCond .ne 9, 3) := by decide +kernel
theorem dX5_wrongSheet_21 : decode cX5_wrongSheet 21 = .ok (.ldc_w 303, 3) := by decide +kernel
theorem dX5_wrongSheet_24 : decode cX5_wrongSheet 24 = .ok (.goto 4, 3) := by decide +kernel
theorem dX5_wrongSheet_27 : decode cX5_wrongSheet 27 = .ok (.iconst 0, 1) := by decide +kernel
theorem dX5_wrongSheet_28 : decode cX5_wrongSheet 28 = .ok (.ireturn, 1) := by decide +kernel
theorem dX5_write_0 : decode cX5_write 0 = .ok (.aload_n 0, 1) := by decide +kernel
theorem dX5_write_1 : decode cX5_write 1 = .ok (.iload_n 1, 1) := by decide +kernel
theorem dX5_write_2 : decode cX5_write 2 = .ok (.invokevirtual 304, 3) := by decide +kernel
theorem dX5_write_5 : decode cX5_write 5 = .ok (.istore 5, 2) := by decide +kernel
theorem dX5_write_7 : decode cX5_write 7 = .ok (.iload 5, 2) := by decide +kernel
theorem dX5_write_9 : decode cX5_write 9 = .ok (.ifCond .eq 11, 3) := by decide +kernel
theorem dX5_write_12 : decode cX5_write 12 = .ok (.aload_n 0, 1) := by decide +kernel
theorem dX5_write_13 : decode cX5_write 13 = .ok (.iload 5, 2) := by decide +kernel
theorem dX5_write_15 : decode cX5_write 15 = .ok (.invokevirtual 61, 3) := by decide +kernel
theorem dX5_write_18 : decode cX5_write 18 = .ok (.i2l, 1) := by decide +kernel
theorem dX5_write_19 : decode cX5_write 19 = .ok (.lreturn, 1) := by decide +kernel
theorem dX5_write_20 : decode cX5_write 20 = .ok (.iload_n 2, 1) := by decide +kernel
theorem dX5_write_21 : decode cX5_write 21 = .ok (.i2l, 1) := by decide +kernel
theorem dX5_write_22 : decode cX5_write 22 = .ok (.lconst 0, 1) := by decide +kernel
theorem dX5_write_23 : decode cX5_write 23 = .ok (.aload_n 0, 1) := by decide +kernel
theorem dX5_write_24 : decode cX5_write 24 = .ok (.getfield 31, 3) := by decide +kernel
theorem dX5_write_27 : decode cX5_write 27 = .ok (.iload_n 1, 1) := by decide +kernel
theorem dX5_write_28 : decode cX5_write 28 = .ok (.iaload, 1) := by decide +kernel
theorem dX5_write_29 : decode cX5_write 29 = .ok (.iconst 1, 1) := by decide +kernel
theorem dX5_write_30 : decode cX5_write 30 = .ok (.isub, 1) := by decide +kernel
theorem dX5_write_31 : decode cX5_write 31 = .ok (.i2l, 1) := by decide +kernel
theorem dX5_write_32 : decode cX5_write 32 = .ok (.invokestatic 42, 3) := by decide +kernel
theorem dX5_write_35 : decode cX5_write 35 = .ok (.ifCond .ne 11, 3) := by decide +kernel
theorem dX5_write_38 : decode cX5_write 38 = .ok (.aload_n 0, 1) := by decide +kernel
theorem dX5_write_39 : decode cX5_write 39 = .ok (.ldc 41, 2) := by decide +kernel
theorem dX5_write_41 : decode cX5_write 41 = .ok (.invokevirtual 61, 3) := by decide +kernel
theorem dX5_write_44 : decode cX5_write 44 = .ok (.i2l, 1) := by decide +kernel
theorem dX5_write_45 : decode cX5_write 45 = .ok (.lreturn, 1) := by decide +kernel
theorem dX5_write_46 : decode cX5_write 46 = .ok (.aload_n 0, 1) := by decide +kernel
theorem dX5_write_47 : decode cX5_write 47 = .ok (.getfield 34, 3) := by decide +kernel
theorem dX5_write_50 : decode cX5_write 50 = .ok (.bipush 40, 2) := by decide +kernel
theorem dX5_write_52 : decode cX5_write 52 = .ok (.iload_n 1, 1) := by decide +kernel
theorem dX5_write_53 : decode cX5_write 53 = .ok (.imul, 1) := by decide +kernel
theorem dX5_write_54 : decode cX5_write 54 = .ok (.iload_n 2, 1) := by decide +kernel
theorem dX5_write_55 : decode cX5_write 55 = .ok (.iadd, 1) := by decide +kernel
theorem dX5_write_56 : decode cX5_write 56 = .ok (.laload, 1) := by decide +kernel
theorem dX5_write_57 : decode cX5_write 57 = .ok (.lstore 6, 2) := by decide +kernel
theorem dX5_write_59 : decode cX5_write 59 = .ok (.aload_n 0, 1) := by decide +kernel
theorem dX5_write_60 : decode cX5_write 60 = .ok (.getfield 34, 3) := by decide +kernel
theorem dX5_write_63 : decode cX5_write 63 = .ok (.bipush 40, 2) := by decide +kernel
theorem dX5_write_65 : decode cX5_write 65 = .ok (.iload_n 1, 1) := by decide +kernel
theorem dX5_write_66 : decode cX5_write 66 = .ok (.imul, 1) := by decide +kernel
theorem dX5_write_67 : decode cX5_write 67 = .ok (.iload_n 2, 1) := by decide +kernel
theorem dX5_write_68 : decode cX5_write 68 = .ok (.iadd, 1) := by decide +kernel
theorem dX5_write_69 : decode cX5_write 69 = .ok (.aload_n 0, 1) := by decide +kernel
theorem dX5_write_70 : decode cX5_write 70 = .ok (.getfield 28, 3) := by decide +kernel
theorem dX5_write_73 : decode cX5_write 73 = .ok (.iload_n 1, 1) := by decide +kernel
theorem dX5_write_74 : decode cX5_write 74 = .ok (.iaload, 1) := by decide +kernel
theorem dX5_write_75 : decode cX5_write 75 = .ok (.lload_n 3, 1) := by decide +kernel
theorem dX5_write_76 : decode cX5_write 76 = .ok (.invokestatic 307, 3) := by decide +kernel
theorem dX5_write_79 : decode cX5_write 79 = .ok (.lastore, 1) := by decide +kernel
theorem dX5_write_80 : decode cX5_write 80 = .ok (.lload 6, 2) := by decide +kernel
theorem dX5_write_82 : decode cX5_write 82 = .ok (.lreturn, 1) := by decide +kernel
theorem dX5_copy_0 : decode cX5_copy 0 = .ok (.iload_n 1, 1) := by decide +kernel
theorem dX5_copy_1 : decode cX5_copy 1 = .ok (.invokestatic 299, 3) := by decide +kernel
theorem dX5_copy_4 : decode cX5_copy 4 = .ok (.ifCond .eq 10, 3) := by decide +kernel
theorem dX5_copy_7 : decode cX5_copy 7 = .ok (.iload_n 3, 1) := by decide +kernel
theorem dX5_copy_8 : decode cX5_copy 8 = .ok (.invokestatic 299, 3) := by decide +kernel
theorem dX5_copy_11 : decode cX5_copy 11 = .ok (.ifCond .ne 10, 3) := by decide +kernel
theorem dX5_copy_14 : decode cX5_copy 14 = .ok (.aload_n 0, 1) := by decide +kernel
theorem dX5_copy_15 : decode cX5_copy 15 = .ok (.ldc 41, 2) := by decide +kernel
theorem dX5_copy_17 : decode cX5_copy 17 = .ok (.invokevirtual 61, 3) := by decide +kernel
theorem dX5_copy_20 : decode cX5_copy 20 = .ok (.ireturn, 1) := by decide +kernel
theorem dX5_copy_21 : decode cX5_copy 21 = .ok (.aload_n 0, 1) := by decide +kernel
theorem dX5_copy_22 : decode cX5_copy 22 = .ok (.getfield 28, 3) := by decide +kernel
theorem dX5_copy_25 : decode cX5_copy 25 = .ok (.iload_n 1, 1) := by decide +kernel
theorem dX5_copy_26 : decode cX5_copy 26 = .ok (.iaload, 1) := by decide +kernel
theorem dX5_copy_27 : decode cX5_copy 27 = .ok (.ifCond .eq 12, 3) := by decide +kernel
theorem dX5_copy_30 : decode cX5_copy 30 = .ok (.aload_n 0, 1) := by decide +kernel
theorem dX5_copy_31 : decode cX5_copy 31 = .ok (.getfield 28, 3) := by decide +kernel
theorem dX5_copy_34 : decode cX5_copy 34 = .ok (.iload_n 3, 1) := by decide +kernel
theorem dX5_copy_35 : decode cX5_copy 35 = .ok (.iaload, 1) := by decide +kernel
theorem dX5_copy_36 : decode cX5_copy 36 = .ok (.ifCond .ne 11, 3) := by decide +kernel
theorem dX5_copy_39 : decode cX5_copy 39 = .ok (.aload_n 0, 1) := by decide +kernel
theorem dX5_copy_40 : decode cX5_copy 40 = .ok (.ldc_w 303, 3) := by decide +kernel
theorem dX5_copy_43 : decode cX5_copy 43 = .ok (.invokevirtual 61, 3) := by decide +kernel
theorem dX5_copy_46 : decode cX5_copy 46 = .ok (.ireturn, 1) := by decide +kernel
theorem dX5_copy_47 : decode cX5_copy 47 = .ok (.aload_n 0, 1) := by decide +kernel
theorem dX5_copy_48 : decode cX5_copy 48 = .ok (.getfield 28, 3) := by decide +kernel
theorem dX5_copy_51 : decode cX5_copy 51 = .ok (.iload_n 1, 1) := by decide +kernel
theorem dX5_copy_52 : decode cX5_copy 52 = .ok (.iaload, 1) := by decide +kernel
theorem dX5_copy_53 : decode cX5_copy 53 = .ok (.aload_n 0, 1) := by decide +kernel
theorem dX5_copy_54 : decode cX5_copy 54 = .ok (.getfield 28, 3) := by decide +kernel
theorem dX5_copy_57 : decode cX5_copy 57 = .ok (.iload_n 3, 1) := by decide +kernel
theorem dX5_copy_58 : decode cX5_copy 58 = .ok (.iaload, 1) := by decide +kernel
theorem dX5_copy_59 : decode cX5_copy 59 = .ok (.if_icmp .eq 10, 3) := by decide +kernel
theorem dX5_copy_62 : decode cX5_copy 62 = .ok (.aload_n 0, 1) := by decide +kernel
theorem dX5_copy_63 : decode cX5_copy 63 = .ok (.ldc 111, 2) := by decide +kernel
theorem dX5_copy_65 : decode cX5_copy 65 = .ok (.invokevirtual 61, 3) := by decide +kernel
theorem dX5_copy_68 : decode cX5_copy 68 = .ok (.ireturn, 1) := by decide +kernel
theorem dX5_copy_69 : decode cX5_copy 69 = .ok (.iload_n 2, 1) := by decide +kernel
theorem dX5_copy_70 : decode cX5_copy 70 = .ok (.ifCond .lt 40, 3) := by decide +kernel
theorem dX5_copy_73 : decode cX5_copy 73 = .ok (.iload 4, 2) := by decide +kernel
theorem dX5_copy_75 : decode cX5_copy 75 = .ok (.ifCond .lt 35, 3) := by decide +kernel
theorem dX5_copy_78 : decode cX5_copy 78 = .ok (.iload 5, 2) := by decide +kernel
theorem dX5_copy_80 : decode cX5_copy 80 = .ok (.ifCond .lt 30, 3) := by decide +kernel
theorem dX5_copy_83 : decode cX5_copy 83 = .ok (.iload 5, 2) := by decide +kernel
theorem dX5_copy_85 : decode cX5_copy 85 = .ok (.aload_n 0, 1) := by decide +kernel
theorem dX5_copy_86 : decode cX5_copy 86 = .ok (.getfield 31, 3) := by decide +kernel
theorem dX5_copy_89 : decode cX5_copy 89 = .ok (.iload_n 1, 1) := by decide +kernel
theorem dX5_copy_90 : decode cX5_copy 90 = .ok (.iaload, 1) := by decide +kernel
theorem dX5_copy_91 : decode cX5_copy 91 = .ok (.iload_n 2, 1) := by decide +kernel
theorem dX5_copy_92 : decode cX5_copy 92 = .ok (.isub, 1) := by decide +kernel
theorem dX5_copy_93 : decode cX5_copy 93 = .ok (.if_icmp .gt 17, 3) := by decide +kernel
theorem dX5_copy_96 : decode cX5_copy 96 = .ok (.iload 5, 2) := by decide +kernel
theorem dX5_copy_98 : decode cX5_copy 98 = .ok (.aload_n 0, 1) := by decide +kernel
theorem dX5_copy_99 : decode cX5_copy 99 = .ok (.getfield 31, 3) := by decide +kernel
theorem dX5_copy_102 : decode cX5_copy 102 = .ok (.iload_n 3, 1) := by decide +kernel
theorem dX5_copy_103 : decode cX5_copy 103 = .ok (.iaload, 1) := by decide +kernel
theorem dX5_copy_104 : decode cX5_copy 104 = .ok (.iload 4, 2) := by decide +kernel
theorem dX5_copy_106 : decode cX5_copy 106 = .ok (.isub, 1) := by decide +kernel
theorem dX5_copy_107 : decode cX5_copy 107 = .ok (.if_icmp .le 10, 3) := by decide +kernel
theorem dX5_copy_110 : decode cX5_copy 110 = .ok (.aload_n 0, 1) := by decide +kernel
theorem dX5_copy_111 : decode cX5_copy 111 = .ok (.ldc 41, 2) := by decide +kernel
theorem dX5_copy_113 : decode cX5_copy 113 = .ok (.invokevirtual 61, 3) := by decide +kernel
theorem dX5_copy_116 : decode cX5_copy 116 = .ok (.ireturn, 1) := by decide +kernel
theorem dX5_copy_117 : decode cX5_copy 117 = .ok (.iconst 0, 1) := by decide +kernel
theorem dX5_copy_118 : decode cX5_copy 118 = .ok (.istore 6, 2) := by decide +kernel
theorem dX5_copy_120 : decode cX5_copy 120 = .ok (.iload 6, 2) := by decide +kernel
theorem dX5_copy_122 : decode cX5_copy 122 = .ok (.iload 5, 2) := by decide +kernel
theorem dX5_copy_124 : decode cX5_copy 124 = .ok (.if_icmp .ge 30, 3) := by decide +kernel
theorem dX5_copy_127 : decode cX5_copy 127 = .ok (.aload_n 0, 1) := by decide +kernel
theorem dX5_copy_128 : decode cX5_copy 128 = .ok (.getfield 38, 3) := by decide +kernel
theorem dX5_copy_131 : decode cX5_copy 131 = .ok (.iload 6, 2) := by decide +kernel
theorem dX5_copy_133 : decode cX5_copy 133 = .ok (.aload_n 0, 1) := by decide +kernel
theorem dX5_copy_134 : decode cX5_copy 134 = .ok (.getfield 34, 3) := by decide +kernel
theorem dX5_copy_137 : decode cX5_copy 137 = .ok (.bipush 40, 2) := by decide +kernel
theorem dX5_copy_139 : decode cX5_copy 139 = .ok (.iload_n 1, 1) := by decide +kernel
theorem dX5_copy_140 : decode cX5_copy 140 = .ok (.imul, 1) := by decide +kernel
theorem dX5_copy_141 : decode cX5_copy 141 = .ok (.iload_n 2, 1) := by decide +kernel
theorem dX5_copy_142 : decode cX5_copy 142 = .ok (.iadd, 1) := by decide +kernel
theorem dX5_copy_143 : decode cX5_copy 143 = .ok (.iload 6, 2) := by decide +kernel
theorem dX5_copy_145 : decode cX5_copy 145 = .ok (.iadd, 1) := by decide +kernel
theorem dX5_copy_146 : decode cX5_copy 146 = .ok (.laload, 1) := by decide +kernel
theorem dX5_copy_147 : decode cX5_copy 147 = .ok (.lastore, 1) := by decide +kernel
theorem dX5_copy_148 : decode cX5_copy 148 = .ok (.iinc 6 1, 3) := by decide +kernel
theorem dX5_copy_151 : decode cX5_copy 151 = .ok (.goto (-31), 3) := by decide +kernel
theorem dX5_copy_154 : decode cX5_copy 154 = .ok (.iconst 0, 1) := by decide +kernel
theorem dX5_copy_155 : decode cX5_copy 155 = .ok (.istore 6, 2) := by decide +kernel
theorem dX5_copy_157 : decode cX5_copy 157 = .ok (.iload 6, 2) := by decide +kernel
theorem dX5_copy_159 : decode cX5_copy 159 = .ok (.iload 5, 2) := by decide +kernel
theorem dX5_copy_161 : decode cX5_copy 161 = .ok (.if_icmp .ge 31, 3) := by decide +kernel
theorem dX5_copy_164 : decode cX5_copy 164 = .ok (.aload_n 0, 1) := by decide +kernel
theorem dX5_copy_165 : decode cX5_copy 165 = .ok (.getfield 34, 3) := by decide +kernel
theorem dX5_copy_168 : decode cX5_copy 168 = .ok (.bipush 40, 2) := by decide +kernel
theorem dX5_copy_170 : decode cX5_copy 170 = .ok (.iload_n 3, 1) := by decide +kernel
theorem dX5_copy_171 : decode cX5_copy 171 = .ok (.imul, 1) := by decide +kernel
theorem dX5_copy_172 : decode cX5_copy 172 = .ok (.iload 4, 2) := by decide +kernel
theorem dX5_copy_174 : decode cX5_copy 174 = .ok (.iadd, 1) := by decide +kernel
theorem dX5_copy_175 : decode cX5_copy 175 = .ok (.iload 6, 2) := by decide +kernel
theorem dX5_copy_177 : decode cX5_copy 177 = .ok (.iadd, 1) := by decide +kernel
theorem dX5_copy_178 : decode cX5_copy 178 = .ok (.aload_n 0, 1) := by decide +kernel
theorem dX5_copy_179 : decode cX5_copy 179 = .ok (.getfield 38, 3) := by decide +kernel
theorem dX5_copy_182 : decode cX5_copy 182 = .ok (.iload 6, 2) := by decide +kernel
theorem dX5_copy_184 : decode cX5_copy 184 = .ok (.laload, 1) := by decide +kernel
theorem dX5_copy_185 : decode cX5_copy 185 = .ok (.lastore, 1) := by decide +kernel
theorem dX5_copy_186 : decode cX5_copy 186 = .ok (.iinc 6 1, 3) := by decide +kernel
theorem dX5_copy_189 : decode cX5_copy 189 = .ok (.goto (-32), 3) := by decide +kernel
theorem dX5_copy_192 : decode cX5_copy 192 = .ok (.iload 5, 2) := by decide +kernel
theorem dX5_copy_194 : decode cX5_copy 194 = .ok (.ireturn, 1) := by decide +kernel
theorem dX5_lays_0 : decode cX5_lays 0 = .ok (.aload_n 0, 1) := by decide +kernel
theorem dX5_lays_1 : decode cX5_lays 1 = .ok (.iload_n 1, 1) := by decide +kernel
theorem dX5_lays_2 : decode cX5_lays 2 = .ok (.invokevirtual 304, 3) := by decide +kernel
theorem dX5_lays_5 : decode cX5_lays 5 = .ok (.istore_n 2, 1) := by decide +kernel
theorem dX5_lays_6 : decode cX5_lays 6 = .ok (.iload_n 2, 1) := by decide +kernel
theorem dX5_lays_7 : decode cX5_lays 7 = .ok (.ifCond .eq 9, 3) := by decide +kernel
theorem dX5_lays_10 : decode cX5_lays 10 = .ok (.aload_n 0, 1) := by decide +kernel
theorem dX5_lays_11 : decode cX5_lays 11 = .ok (.iload_n 2, 1) := by decide +kernel
theorem dX5_lays_12 : decode cX5_lays 12 = .ok (.invokevirtual 61, 3) := by decide +kernel
theorem dX5_lays_15 : decode cX5_lays 15 = .ok (.ireturn, 1) := by decide +kernel
theorem dX5_lays_16 : decode cX5_lays 16 = .ok (.iconst 0, 1) := by decide +kernel
theorem dX5_lays_17 : decode cX5_lays 17 = .ok (.istore_n 3, 1) := by decide +kernel
theorem dX5_lays_18 : decode cX5_lays 18 = .ok (.iconst 0, 1) := by decide +kernel
theorem dX5_lays_19 : decode cX5_lays 19 = .ok (.istore 4, 2) := by decide +kernel
theorem dX5_lays_21 : decode cX5_lays 21 = .ok (.iload 4, 2) := by decide +kernel
theorem dX5_lays_23 : decode cX5_lays 23 = .ok (.aload_n 0, 1) := by decide +kernel
theorem dX5_lays_24 : decode cX5_lays 24 = .ok (.getfield 31, 3) := by decide +kernel
theorem dX5_lays_27 : decode cX5_lays 27 = .ok (.iload_n 1, 1) := by decide +kernel
theorem dX5_lays_28 : decode cX5_lays 28 = .ok (.iaload, 1) := by decide +kernel
theorem dX5_lays_29 : decode cX5_lays 29 = .ok (.if_icmp .ge 93, 3) := by decide +kernel
theorem dX5_lays_32 : decode cX5_lays 32 = .ok (.iload 4, 2) := by decide +kernel
theorem dX5_lays_34 : decode cX5_lays 34 = .ok (.aload_n 0, 1) := by decide +kernel
theorem dX5_lays_35 : decode cX5_lays 35 = .ok (.getfield 7, 3) := by decide +kernel
theorem dX5_lays_38 : decode cX5_lays 38 = .ok (.iconst 0, 1) := by decide +kernel
theorem dX5_lays_39 : decode cX5_lays 39 = .ok (.iaload, 1) := by decide +kernel
theorem dX5_lays_40 : decode cX5_lays 40 = .ok (.if_icmp .ge 82, 3) := by decide +kernel
theorem dX5_lays_43 : decode cX5_lays 43 = .ok (.aload_n 0, 1) := by decide +kernel
theorem dX5_lays_44 : decode cX5_lays 44 = .ok (.getfield 34, 3) := by decide +kernel
theorem dX5_lays_47 : decode cX5_lays 47 = .ok (.bipush 40, 2) := by decide +kernel
theorem dX5_lays_49 : decode cX5_lays 49 = .ok (.iload_n 1, 1) := by decide +kernel
theorem dX5_lays_50 : decode cX5_lays 50 = .ok (.imul, 1) := by decide +kernel
theorem dX5_lays_51 : decode cX5_lays 51 = .ok (.iload 4, 2) := by decide +kernel
theorem dX5_lays_53 : decode cX5_lays 53 = .ok (.iadd, 1) := by decide +kernel
theorem dX5_lays_54 : decode cX5_lays 54 = .ok (.laload, 1) := by decide +kernel
theorem dX5_lays_55 : decode cX5_lays 55 = .ok (.lconst 0, 1) := by decide +kernel
theorem dX5_lays_56 : decode cX5_lays 56 = .ok (.ldc2_w 75, 3) := by decide +kernel
theorem dX5_lays_59 : decode cX5_lays 59 = .ok (.invokestatic 42, 3) := by decide +kernel
theorem dX5_lays_62 : decode cX5_lays 62 = .ok (.istore 5, 2) := by decide +kernel
theorem dX5_lays_64 : decode cX5_lays 64 = .ok (.aload_n 0, 1) := by decide +kernel
theorem dX5_lays_65 : decode cX5_lays 65 = .ok (.getfield 7, 3) := by decide +kernel
theorem dX5_lays_68 : decode cX5_lays 68 = .ok (.iload 4, 2) := by decide +kernel
theorem dX5_lays_70 : decode cX5_lays 70 = .ok (.iconst 1, 1) := by decide +kernel
theorem dX5_lays_71 : decode cX5_lays 71 = .ok (.invokestatic 54, 3) := by decide +kernel
theorem dX5_lays_74 : decode cX5_lays 74 = .ok (.iload 5, 2) := by decide +kernel
theorem dX5_lays_76 : decode cX5_lays 76 = .ok (.ifCond .eq 19, 3) := by decide +kernel
theorem dX5_lays_79 : decode cX5_lays 79 = .ok (.aload_n 0, 1) := by decide +kernel
theorem dX5_lays_80 : decode cX5_lays 80 = .ok (.getfield 34, 3) := by decide +kernel
theorem dX5_lays_83 : decode cX5_lays 83 = .ok (.bipush 40, 2) := by decide +kernel
theorem dX5_lays_85 : decode cX5_lays 85 = .ok (.iload_n 1, 1) := by decide +kernel
theorem dX5_lays_86 : decode cX5_lays 86 = .ok (.imul, 1) := by decide +kernel
theorem dX5_lays_87 : decode cX5_lays 87 = .ok (.iload 4, 2) := by decide +kernel
theorem dX5_lays_89 : decode cX5_lays 89 = .ok (.iadd, 1) := by decide +kernel
theorem dX5_lays_90 : decode cX5_lays 90 = .ok (.laload, 1) := by decide +kernel
theorem dX5_lays_91 : decode cX5_lays 91 = .ok (.l2i, 1) := by decide +kernel
theorem dX5_lays_92 : decode cX5_lays 92 = .ok (.goto 10, 3) := by decide +kernel
theorem dX5_lays_95 : decode cX5_lays 95 = .ok (.aload_n 0, 1) := by decide +kernel
theorem dX5_lays_96 : decode cX5_lays 96 = .ok (.iload 4, 2) := by decide +kernel
theorem dX5_lays_98 : decode cX5_lays 98 = .ok (.iconst 1, 1) := by decide +kernel
theorem dX5_lays_99 : decode cX5_lays 99 = .ok (.invokevirtual 87, 3) := by decide +kernel
theorem dX5_lays_102 : decode cX5_lays 102 = .ok (.iastore, 1) := by decide +kernel
theorem dX5_lays_103 : decode cX5_lays 103 = .ok (.iload_n 3, 1) := by decide +kernel
theorem dX5_lays_104 : decode cX5_lays 104 = .ok (.iload 5, 2) := by decide +kernel
theorem dX5_lays_106 : decode cX5_lays 106 = .ok (.ifCond .eq 7, 3) := by decide +kernel
theorem dX5_lays_109 : decode cX5_lays 109 = .ok (.iconst 1, 1) := by decide +kernel
theorem dX5_lays_110 : decode cX5_lays 110 = .ok (.goto 4, 3) := by decide +kernel
theorem dX5_lays_113 : decode cX5_lays 113 = .ok (.iconst 0, 1) := by decide +kernel
theorem dX5_lays_114 : decode cX5_lays 114 = .ok (.iadd, 1) := by decide +kernel
theorem dX5_lays_115 : decode cX5_lays 115 = .ok (.istore_n 3, 1) := by decide +kernel
theorem dX5_lays_116 : decode cX5_lays 116 = .ok (.iinc 4 1, 3) := by decide +kernel
theorem dX5_lays_119 : decode cX5_lays 119 = .ok (.goto (-98), 3) := by decide +kernel
theorem dX5_lays_122 : decode cX5_lays 122 = .ok (.iload_n 3, 1) := by decide +kernel
theorem dX5_lays_123 : decode cX5_lays 123 = .ok (.ireturn, 1) := by decide +kernel
theorem dX5_wrongBook_0 : decode cX5_wrongBook 0 = .ok (.aload_n 0, 1) := by decide +kernel
theorem dX5_wrongBook_1 : decode cX5_wrongBook 1 = .ok (.iload_n 1, 1) := by decide +kernel
theorem dX5_wrongBook_2 : decode cX5_wrongBook 2 = .ok (.invokevirtual 304, 3) := by decide +kernel
theorem dX5_wrongBook_5 : decode cX5_wrongBook 5 = .ok (.istore_n 3, 1) := by decide +kernel
theorem dX5_wrongBook_6 : decode cX5_wrongBook 6 = .ok (.iload_n 3, 1) := by decide +kernel
theorem dX5_wrongBook_7 : decode cX5_wrongBook 7 = .ok (.ifCond .eq 7, 3) := by decide +kernel
theorem dX5_wrongBook_10 : decode cX5_wrongBook 10 = .ok (.iload_n 3, 1) := by decide +kernel
theorem dX5_wrongBook_11 : decode cX5_wrongBook 11 = .ok (.goto 17, 3) := by decide +kernel
theorem dX5_wrongBook_14 : decode cX5_wrongBook 14 = .ok (.aload_n 0, 1) := by decide +kernel
theorem dX5_wrongBook_15 : decode cX5_wrongBook 15 = .ok (.iload_n 2, 1) := by decide +kernel
theorem dX5_wrongBook_16 : decode cX5_wrongBook 16 = .ok (.invokevirtual 93, 3) := by decide +kernel
theorem dX5_wrongBook_19 : decode cX5_wrongBook 19 = .ok (.ifCond .eq 7, 3) := by decide +kernel
theorem dX5_wrongBook_22 : decode cX5_wrongBook 22 = .ok (.iconst 0, 1) := by decide +kernel
theorem dX5_wrongBook_23 : decode cX5_wrongBook 23 = .ok (.goto 5, 3) := by decide +kernel
theorem dX5_wrongBook_26 : decode cX5_wrongBook 26 = .ok (.ldc 41, 2) := by decide +kernel
theorem dX5_wrongBook_28 : decode cX5_wrongBook 28 = .ok (.ireturn, 1) := by decide +kernel
theorem dX5_book_0 : decode cX5_book 0 = .ok (.aload_n 0, 1) := by decide +kernel
theorem dX5_book_1 : decode cX5_book 1 = .ok (.iload_n 1, 1) := by decide +kernel
theorem dX5_book_2 : decode cX5_book 2 = .ok (.iload_n 2, 1) := by decide +kernel
theorem dX5_book_3 : decode cX5_book 3 = .ok (.invokevirtual 311, 3) := by decide +kernel
theorem dX5_book_6 : decode cX5_book 6 = .ok (.istore_n 3, 1) := by decide +kernel
theorem dX5_book_7 : decode cX5_book 7 = .ok (.iload_n 3, 1) := by decide +kernel
theorem dX5_book_8 : decode cX5_book 8 = .ok (.ifCond .eq 9, 3) := by decide +kernel
theorem dX5_book_11 : decode cX5_book 11 = .ok (.aload_n 0, 1) := by decide +kernel
theorem dX5_book_12 : decode cX5_book 12 = .ok (.iload_n 3, 1) := by decide +kernel
theorem dX5_book_13 : decode cX5_book 13 = .ok (.invokevirtual 61, 3) := by decide +kernel
theorem dX5_book_16 : decode cX5_book 16 = .ok (.ireturn, 1) := by decide +kernel
theorem dX5_book_17 : decode cX5_book 17 = .ok (.aload_n 0, 1) := by decide +kernel
theorem dX5_book_18 : decode cX5_book 18 = .ok (.invokevirtual 151, 3) := by decide +kernel
theorem dX5_book_21 : decode cX5_book 21 = .ok (.iconst 0, 1) := by decide +kernel
theorem dX5_book_22 : decode cX5_book 22 = .ok (.istore 4, 2) := by decide +kernel
theorem dX5_book_24 : decode cX5_book 24 = .ok (.iload 4, 2) := by decide +kernel
theorem dX5_book_26 : decode cX5_book 26 = .ok (.aload_n 0, 1) := by decide +kernel
theorem dX5_book_27 : decode cX5_book 27 = .ok (.getfield 31, 3) := by decide +kernel
theorem dX5_book_30 : decode cX5_book 30 = .ok (.iload_n 1, 1) := by decide +kernel
theorem dX5_book_31 : decode cX5_book 31 = .ok (.iaload, 1) := by decide +kernel
theorem dX5_book_32 : decode cX5_book 32 = .ok (.if_icmp .ge 41, 3) := by decide +kernel
theorem dX5_book_35 : decode cX5_book 35 = .ok (.aload_n 0, 1) := by decide +kernel
theorem dX5_book_36 : decode cX5_book 36 = .ok (.getfield 34, 3) := by decide +kernel
theorem dX5_book_39 : decode cX5_book 39 = .ok (.bipush 40, 2) := by decide +kernel
theorem dX5_book_41 : decode cX5_book 41 = .ok (.iload_n 1, 1) := by decide +kernel
theorem dX5_book_42 : decode cX5_book 42 = .ok (.imul, 1) := by decide +kernel
theorem dX5_book_43 : decode cX5_book 43 = .ok (.iload 4, 2) := by decide +kernel
theorem dX5_book_45 : decode cX5_book 45 = .ok (.iadd, 1) := by decide +kernel
theorem dX5_book_46 : decode cX5_book 46 = .ok (.aload_n 0, 1) := by decide +kernel
theorem dX5_book_47 : decode cX5_book 47 = .ok (.getfield 28, 3) := by decide +kernel
theorem dX5_book_50 : decode cX5_book 50 = .ok (.iload_n 1, 1) := by decide +kernel
theorem dX5_book_51 : decode cX5_book 51 = .ok (.iaload, 1) := by decide +kernel
theorem dX5_book_52 : decode cX5_book 52 = .ok (.aload_n 0, 1) := by decide +kernel
theorem dX5_book_53 : decode cX5_book 53 = .ok (.iload_n 2, 1) := by decide +kernel
theorem dX5_book_54 : decode cX5_book 54 = .ok (.iconst 1, 1) := by decide +kernel
theorem dX5_book_55 : decode cX5_book 55 = .ok (.invokevirtual 87, 3) := by decide +kernel
theorem dX5_book_58 : decode cX5_book 58 = .ok (.i2l, 1) := by decide +kernel
theorem dX5_book_59 : decode cX5_book 59 = .ok (.invokestatic 307, 3) := by decide +kernel
theorem dX5_book_62 : decode cX5_book 62 = .ok (.lastore, 1) := by decide +kernel
theorem dX5_book_63 : decode cX5_book 63 = .ok (.aload_n 0, 1) := by decide +kernel
theorem dX5_book_64 : decode cX5_book 64 = .ok (.invokevirtual 128, 3) := by decide +kernel
theorem dX5_book_67 : decode cX5_book 67 = .ok (.iinc 4 1, 3) := by decide +kernel
theorem dX5_book_70 : decode cX5_book 70 = .ok (.goto (-46), 3) := by decide +kernel
theorem dX5_book_73 : decode cX5_book 73 = .ok (.aload_n 0, 1) := by decide +kernel
theorem dX5_book_74 : decode cX5_book 74 = .ok (.aload_n 0, 1) := by decide +kernel
theorem dX5_book_75 : decode cX5_book 75 = .ok (.getfield 31, 3) := by decide +kernel
theorem dX5_book_78 : decode cX5_book 78 = .ok (.iload_n 1, 1) := by decide +kernel
theorem dX5_book_79 : decode cX5_book 79 = .ok (.iaload, 1) := by decide +kernel
theorem dX5_book_80 : decode cX5_book 80 = .ok (.invokevirtual 154, 3) := by decide +kernel
theorem dX5_book_83 : decode cX5_book 83 = .ok (.ireturn, 1) := by decide +kernel
theorem dX5_isBook_0 : decode cX5_isBook 0 = .ok (.iconst 0, 1) := by decide +kernel
theorem dX5_isBook_1 : decode cX5_isBook 1 = .ok (.istore_n 3, 1) := by decide +kernel
theorem dX5_isBook_2 : decode cX5_isBook 2 = .ok (.iload_n 3, 1) := by decide +kernel
theorem dX5_isBook_3 : decode cX5_isBook 3 = .ok (.aload_n 0, 1) := by decide +kernel
theorem dX5_isBook_4 : decode cX5_isBook 4 = .ok (.getfield 31, 3) := by decide +kernel
theorem dX5_isBook_7 : decode cX5_isBook 7 = .ok (.iload_n 1, 1) := by decide +kernel
theorem dX5_isBook_8 : decode cX5_isBook 8 = .ok (.iaload, 1) := by decide +kernel
theorem dX5_isBook_9 : decode cX5_isBook 9 = .ok (.if_icmp .ge 37, 3) := by decide +kernel
theorem dX5_isBook_12 : decode cX5_isBook 12 = .ok (.aload_n 0, 1) := by decide +kernel
theorem dX5_isBook_13 : decode cX5_isBook 13 = .ok (.getfield 34, 3) := by decide +kernel
theorem dX5_isBook_16 : decode cX5_isBook 16 = .ok (.bipush 40, 2) := by decide +kernel
theorem dX5_isBook_18 : decode cX5_isBook 18 = .ok (.iload_n 1, 1) := by decide +kernel
theorem dX5_isBook_19 : decode cX5_isBook 19 = .ok (.imul, 1) := by decide +kernel
theorem dX5_isBook_20 : decode cX5_isBook 20 = .ok (.iload_n 3, 1) := by decide +kernel
theorem dX5_isBook_21 : decode cX5_isBook 21 = .ok (.iadd, 1) := by decide +kernel
theorem dX5_isBook_22 : decode cX5_isBook 22 = .ok (.laload, 1) := by decide +kernel
theorem dX5_isBook_23 : decode cX5_isBook 23 = .ok (.aload_n 0, 1) := by decide +kernel
theorem dX5_isBook_24 : decode cX5_isBook 24 = .ok (.iload_n 2, 1) := by decide +kernel
theorem dX5_isBook_25 : decode cX5_isBook 25 = .ok (.iconst 2, 1) := by decide +kernel
theorem dX5_isBook_26 : decode cX5_isBook 26 = .ok (.invokevirtual 87, 3) := by decide +kernel
theorem dX5_isBook_29 : decode cX5_isBook 29 = .ok (.i2l, 1) := by decide +kernel
theorem dX5_isBook_30 : decode cX5_isBook 30 = .ok (.lcmp, 1) := by decide +kernel
theorem dX5_isBook_31 : decode cX5_isBook 31 = .ok (.ifCond .eq 5, 3) := by decide +kernel
theorem dX5_isBook_34 : decode cX5_isBook 34 = .ok (.iconst 0, 1) := by decide +kernel
theorem dX5_isBook_35 : decode cX5_isBook 35 = .ok (.ireturn, 1) := by decide +kernel
theorem dX5_isBook_36 : decode cX5_isBook 36 = .ok (.aload_n 0, 1) := by decide +kernel
theorem dX5_isBook_37 : decode cX5_isBook 37 = .ok (.invokevirtual 128, 3) := by decide +kernel
theorem dX5_isBook_40 : decode cX5_isBook 40 = .ok (.iinc 3 1, 3) := by decide +kernel
theorem dX5_isBook_43 : decode cX5_isBook 43 = .ok (.goto (-41), 3) := by decide +kernel
theorem dX5_isBook_46 : decode cX5_isBook 46 = .ok (.iconst 1, 1) := by decide +kernel
theorem dX5_isBook_47 : decode cX5_isBook 47 = .ok (.ireturn, 1) := by decide +kernel
theorem dX5_read_0 : decode cX5_read 0 = .ok (.aload_n 0, 1) := by decide +kernel
theorem dX5_read_1 : decode cX5_read 1 = .ok (.iload_n 1, 1) := by decide +kernel
theorem dX5_read_2 : decode cX5_read 2 = .ok (.iload_n 2, 1) := by decide +kernel
theorem dX5_read_3 : decode cX5_read 3 = .ok (.invokevirtual 311, 3) := by decide +kernel
theorem dX5_read_6 : decode cX5_read 6 = .ok (.istore_n 3, 1) := by decide +kernel
theorem dX5_read_7 : decode cX5_read 7 = .ok (.iload_n 3, 1) := by decide +kernel
theorem dX5_read_8 : decode cX5_read 8 = .ok (.ifCond .eq 9, 3) := by decide +kernel
theorem dX5_read_11 : decode cX5_read 11 = .ok (.aload_n 0, 1) := by decide +kernel
theorem dX5_read_12 : decode cX5_read 12 = .ok (.iload_n 3, 1) := by decide +kernel
theorem dX5_read_13 : decode cX5_read 13 = .ok (.invokevirtual 61, 3) := by decide +kernel
theorem dX5_read_16 : decode cX5_read 16 = .ok (.ireturn, 1) := by decide +kernel
theorem dX5_read_17 : decode cX5_read 17 = .ok (.aload_n 0, 1) := by decide +kernel
theorem dX5_read_18 : decode cX5_read 18 = .ok (.invokevirtual 151, 3) := by decide +kernel
theorem dX5_read_21 : decode cX5_read 21 = .ok (.iconst 0, 1) := by decide +kernel
theorem dX5_read_22 : decode cX5_read 22 = .ok (.istore 4, 2) := by decide +kernel
theorem dX5_read_24 : decode cX5_read 24 = .ok (.iconst 0, 1) := by decide +kernel
theorem dX5_read_25 : decode cX5_read 25 = .ok (.istore 5, 2) := by decide +kernel
theorem dX5_read_27 : decode cX5_read 27 = .ok (.iload 5, 2) := by decide +kernel
theorem dX5_read_29 : decode cX5_read 29 = .ok (.sipush 600, 3) := by decide +kernel
theorem dX5_read_32 : decode cX5_read 32 = .ok (.if_icmp .ge 62, 3) := by decide +kernel
theorem dX5_read_35 : decode cX5_read 35 = .ok (.aload_n 0, 1) := by decide +kernel
theorem dX5_read_36 : decode cX5_read 36 = .ok (.getfield 7, 3) := by decide +kernel
theorem dX5_read_39 : decode cX5_read 39 = .ok (.iload_n 2, 1) := by decide +kernel
theorem dX5_read_40 : decode cX5_read 40 = .ok (.iconst 0, 1) := by decide +kernel
theorem dX5_read_41 : decode cX5_read 41 = .ok (.invokestatic 54, 3) := by decide +kernel
theorem dX5_read_44 : decode cX5_read 44 = .ok (.iload 5, 2) := by decide +kernel
theorem dX5_read_46 : decode cX5_read 46 = .ok (.bipush 100, 2) := by decide +kernel
theorem dX5_read_48 : decode cX5_read 48 = .ok (.idiv, 1) := by decide +kernel
theorem dX5_read_49 : decode cX5_read 49 = .ok (.iastore, 1) := by decide +kernel
theorem dX5_read_50 : decode cX5_read 50 = .ok (.aload_n 0, 1) := by decide +kernel
theorem dX5_read_51 : decode cX5_read 51 = .ok (.getfield 7, 3) := by decide +kernel
theorem dX5_read_54 : decode cX5_read 54 = .ok (.iload_n 2, 1) := by decide +kernel
theorem dX5_read_55 : decode cX5_read 55 = .ok (.iconst 1, 1) := by decide +kernel
theorem dX5_read_56 : decode cX5_read 56 = .ok (.invokestatic 54, 3) := by decide +kernel
theorem dX5_read_59 : decode cX5_read 59 = .ok (.iload 5, 2) := by decide +kernel
theorem dX5_read_61 : decode cX5_read 61 = .ok (.bipush 100, 2) := by decide +kernel
theorem dX5_read_63 : decode cX5_read 63 = .ok (.irem, 1) := by decide +kernel
theorem dX5_read_64 : decode cX5_read 64 = .ok (.iastore, 1) := by decide +kernel
theorem dX5_read_65 : decode cX5_read 65 = .ok (.aload_n 0, 1) := by decide +kernel
theorem dX5_read_66 : decode cX5_read 66 = .ok (.iload 4, 2) := by decide +kernel
theorem dX5_read_68 : decode cX5_read 68 = .ok (.aload_n 0, 1) := by decide +kernel
theorem dX5_read_69 : decode cX5_read 69 = .ok (.iload_n 1, 1) := by decide +kernel
theorem dX5_read_70 : decode cX5_read 70 = .ok (.iload_n 2, 1) := by decide +kernel
theorem dX5_read_71 : decode cX5_read 71 = .ok (.invokevirtual 314, 3) := by decide +kernel
theorem dX5_read_74 : decode cX5_read 74 = .ok (.ifCond .eq 7, 3) := by decide +kernel
theorem dX5_read_77 : decode cX5_read 77 = .ok (.iconst 1, 1) := by decide +kernel
theorem dX5_read_78 : decode cX5_read 78 = .ok (.goto 4, 3) := by decide +kernel
theorem dX5_read_81 : decode cX5_read 81 = .ok (.iconst 0, 1) := by decide +kernel
theorem dX5_read_82 : decode cX5_read 82 = .ok (.iadd, 1) := by decide +kernel
theorem dX5_read_83 : decode cX5_read 83 = .ok (.invokevirtual 154, 3) := by decide +kernel
theorem dX5_read_86 : decode cX5_read 86 = .ok (.istore 4, 2) := by decide +kernel
theorem dX5_read_88 : decode cX5_read 88 = .ok (.iinc 5 1, 3) := by decide +kernel
theorem dX5_read_91 : decode cX5_read 91 = .ok (.goto (-64), 3) := by decide +kernel
theorem dX5_read_94 : decode cX5_read 94 = .ok (.iload 4, 2) := by decide +kernel
theorem dX5_read_96 : decode cX5_read 96 = .ok (.ireturn, 1) := by decide +kernel
theorem dX5_image_0 : decode cX5_image 0 = .ok (.iconst 0, 1) := by decide +kernel
theorem dX5_image_1 : decode cX5_image 1 = .ok (.istore_n 1, 1) := by decide +kernel
theorem dX5_image_2 : decode cX5_image 2 = .ok (.iload_n 1, 1) := by decide +kernel
theorem dX5_image_3 : decode cX5_image 3 = .ok (.bipush 41, 2) := by decide +kernel
theorem dX5_image_5 : decode cX5_image 5 = .ok (.if_icmp .ge 21, 3) := by decide +kernel
theorem dX5_image_8 : decode cX5_image 8 = .ok (.aload_n 0, 1) := by decide +kernel
theorem dX5_image_9 : decode cX5_image 9 = .ok (.getfield 13, 3) := by decide +kernel
theorem dX5_image_12 : decode cX5_image 12 = .ok (.iload_n 1, 1) := by decide +kernel
theorem dX5_image_13 : decode cX5_image 13 = .ok (.aload_n 0, 1) := by decide +kernel
theorem dX5_image_14 : decode cX5_image 14 = .ok (.getfield 7, 3) := by decide +kernel
theorem dX5_image_17 : decode cX5_image 17 = .ok (.iload_n 1, 1) := by decide +kernel
theorem dX5_image_18 : decode cX5_image 18 = .ok (.iaload, 1) := by decide +kernel
theorem dX5_image_19 : decode cX5_image 19 = .ok (.iastore, 1) := by decide +kernel
theorem dX5_image_20 : decode cX5_image 20 = .ok (.iinc 1 1, 3) := by decide +kernel
theorem dX5_image_23 : decode cX5_image 23 = .ok (.goto (-21), 3) := by decide +kernel
theorem dX5_image_26 : decode cX5_image 26 = .ok (.aload_n 0, 1) := by decide +kernel
theorem dX5_image_27 : decode cX5_image 27 = .ok (.iconst 1, 1) := by decide +kernel
theorem dX5_image_28 : decode cX5_image 28 = .ok (.putfield 317, 3) := by decide +kernel
theorem dX5_image_31 : decode cX5_image 31 = .ok (.iconst 1, 1) := by decide +kernel
theorem dX5_image_32 : decode cX5_image 32 = .ok (.ireturn, 1) := by decide +kernel
theorem dX5_undo_0 : decode cX5_undo 0 = .ok (.aload_n 0, 1) := by decide +kernel
theorem dX5_undo_1 : decode cX5_undo 1 = .ok (.getfield 317, 3) := by decide +kernel
theorem dX5_undo_4 : decode cX5_undo 4 = .ok (.ifCond .ne 10, 3) := by decide +kernel
theorem dX5_undo_7 : decode cX5_undo 7 = .ok (.aload_n 0, 1) := by decide +kernel
theorem dX5_undo_8 : decode cX5_undo 8 = .ok (.ldc 80, 2) := by decide +kernel
theorem dX5_undo_10 : decode cX5_undo 10 = .ok (.invokevirtual 61, 3) := by decide +kernel
theorem dX5_undo_13 : decode cX5_undo 13 = .ok (.ireturn, 1) := by decide +kernel
theorem dX5_undo_14 : decode cX5_undo 14 = .ok (.iconst 0, 1) := by decide +kernel
theorem dX5_undo_15 : decode cX5_undo 15 = .ok (.istore_n 1, 1) := by decide +kernel
theorem dX5_undo_16 : decode cX5_undo 16 = .ok (.iload_n 1, 1) := by decide +kernel
theorem dX5_undo_17 : decode cX5_undo 17 = .ok (.bipush 41, 2) := by decide +kernel
theorem dX5_undo_19 : decode cX5_undo 19 = .ok (.if_icmp .ge 21, 3) := by decide +kernel
theorem dX5_undo_22 : decode cX5_undo 22 = .ok (.aload_n 0, 1) := by decide +kernel
theorem dX5_undo_23 : decode cX5_undo 23 = .ok (.getfield 7, 3) := by decide +kernel
theorem dX5_undo_26 : decode cX5_undo 26 = .ok (.iload_n 1, 1) := by decide +kernel
theorem dX5_undo_27 : decode cX5_undo 27 = .ok (.aload_n 0, 1) := by decide +kernel
theorem dX5_undo_28 : decode cX5_undo 28 = .ok (.getfield 13, 3) := by decide +kernel
theorem dX5_undo_31 : decode cX5_undo 31 = .ok (.iload_n 1, 1) := by decide +kernel
theorem dX5_undo_32 : decode cX5_undo 32 = .ok (.iaload, 1) := by decide +kernel
theorem dX5_undo_33 : decode cX5_undo 33 = .ok (.iastore, 1) := by decide +kernel
theorem dX5_undo_34 : decode cX5_undo 34 = .ok (.iinc 1 1, 3) := by decide +kernel
theorem dX5_undo_37 : decode cX5_undo 37 = .ok (.goto (-21), 3) := by decide +kernel
theorem dX5_undo_40 : decode cX5_undo 40 = .ok (.aload_n 0, 1) := by decide +kernel
theorem dX5_undo_41 : decode cX5_undo 41 = .ok (.getfield 7, 3) := by decide +kernel
theorem dX5_undo_44 : decode cX5_undo 44 = .ok (.iconst 0, 1) := by decide +kernel
theorem dX5_undo_45 : decode cX5_undo 45 = .ok (.iaload, 1) := by decide +kernel
theorem dX5_undo_46 : decode cX5_undo 46 = .ok (.ireturn, 1) := by decide +kernel
theorem dX5_tear_0 : decode cX5_tear 0 = .ok (.aload_n 0, 1) := by decide +kernel
theorem dX5_tear_1 : decode cX5_tear 1 = .ok (.getfield 317, 3) := by decide +kernel
theorem dX5_tear_4 : decode cX5_tear 4 = .ok (.ifCond .eq 7, 3) := by decide +kernel
theorem dX5_tear_7 : decode cX5_tear 7 = .ok (.iconst 1, 1) := by decide +kernel
theorem dX5_tear_8 : decode cX5_tear 8 = .ok (.goto 4, 3) := by decide +kernel
theorem dX5_tear_11 : decode cX5_tear 11 = .ok (.iconst 0, 1) := by decide +kernel
theorem dX5_tear_12 : decode cX5_tear 12 = .ok (.istore_n 1, 1) := by decide +kernel
theorem dX5_tear_13 : decode cX5_tear 13 = .ok (.aload_n 0, 1) := by decide +kernel
theorem dX5_tear_14 : decode cX5_tear 14 = .ok (.iconst 0, 1) := by decide +kernel
theorem dX5_tear_15 : decode cX5_tear 15 = .ok (.putfield 317, 3) := by decide +kernel
theorem dX5_tear_18 : decode cX5_tear 18 = .ok (.iload_n 1, 1) := by decide +kernel
theorem dX5_tear_19 : decode cX5_tear 19 = .ok (.ireturn, 1) := by decide +kernel
theorem dX5_count_0 : decode cX5_count 0 = .ok (.iload_n 1, 1) := by decide +kernel
theorem dX5_count_1 : decode cX5_count 1 = .ok (.tableswitch 56 0 3 #[31, 38, 45, 50], 31) := by decide +kernel
theorem dX5_count_32 : decode cX5_count 32 = .ok (.aload_n 0, 1) := by decide +kernel
theorem dX5_count_33 : decode cX5_count 33 = .ok (.getfield 7, 3) := by decide +kernel
theorem dX5_count_36 : decode cX5_count 36 = .ok (.iconst 0, 1) := by decide +kernel
theorem dX5_count_37 : decode cX5_count 37 = .ok (.iaload, 1) := by decide +kernel
theorem dX5_count_38 : decode cX5_count 38 = .ok (.ireturn, 1) := by decide +kernel
theorem dX5_count_39 : decode cX5_count 39 = .ok (.aload_n 0, 1) := by decide +kernel
theorem dX5_count_40 : decode cX5_count 40 = .ok (.getfield 7, 3) := by decide +kernel
theorem dX5_count_43 : decode cX5_count 43 = .ok (.iconst 1, 1) := by decide +kernel
theorem dX5_count_44 : decode cX5_count 44 = .ok (.iaload, 1) := by decide +kernel
theorem dX5_count_45 : decode cX5_count 45 = .ok (.ireturn, 1) := by decide +kernel
theorem dX5_count_46 : decode cX5_count 46 = .ok (.aload_n 0, 1) := by decide +kernel
theorem dX5_count_47 : decode cX5_count 47 = .ok (.getfield 196, 3) := by decide +kernel
theorem dX5_count_50 : decode cX5_count 50 = .ok (.ireturn, 1) := by decide +kernel
theorem dX5_count_51 : decode cX5_count 51 = .ok (.aload_n 0, 1) := by decide +kernel
theorem dX5_count_52 : decode cX5_count 52 = .ok (.iconst 2, 1) := by decide +kernel
theorem dX5_count_53 : decode cX5_count 53 = .ok (.invokevirtual 142, 3) := by decide +kernel
theorem dX5_count_56 : decode cX5_count 56 = .ok (.ireturn, 1) := by decide +kernel
theorem dX5_count_57 : decode cX5_count 57 = .ok (.aload_n 0, 1) := by decide +kernel
theorem dX5_count_58 : decode cX5_count 58 = .ok (.ldc 41, 2) := by decide +kernel
theorem dX5_count_60 : decode cX5_count 60 = .ok (.invokevirtual 61, 3) := by decide +kernel
theorem dX5_count_63 : decode cX5_count 63 = .ok (.ireturn, 1) := by decide +kernel
theorem dX5_status_0 : decode cX5_status 0 = .ok (.iload_n 1, 1) := by decide +kernel
theorem dX5_status_1 : decode cX5_status 1 = .ok (.i2l, 1) := by decide +kernel
theorem dX5_status_2 : decode cX5_status 2 = .ok (.ldc2_w 320, 3) := by decide +kernel
theorem dX5_status_5 : decode cX5_status 5 = .ok (.ldc2_w 322, 3) := by decide +kernel
theorem dX5_status_8 : decode cX5_status 8 = .ok (.invokestatic 42, 3) := by decide +kernel
theorem dX5_status_11 : decode cX5_status 11 = .ok (.ifCond .ne 10, 3) := by decide +kernel
theorem dX5_status_14 : decode cX5_status 14 = .ok (.aload_n 0, 1) := by decide +kernel
theorem dX5_status_15 : decode cX5_status 15 = .ok (.ldc 41, 2) := by decide +kernel
theorem dX5_status_17 : decode cX5_status 17 = .ok (.invokevirtual 61, 3) := by decide +kernel
theorem dX5_status_20 : decode cX5_status 20 = .ok (.ireturn, 1) := by decide +kernel
theorem dX5_status_21 : decode cX5_status 21 = .ok (.iconst 0, 1) := by decide +kernel
theorem dX5_status_22 : decode cX5_status 22 = .ok (.istore_n 2, 1) := by decide +kernel
theorem dX5_status_23 : decode cX5_status 23 = .ok (.iconst 0, 1) := by decide +kernel
theorem dX5_status_24 : decode cX5_status 24 = .ok (.istore_n 3, 1) := by decide +kernel
theorem dX5_status_25 : decode cX5_status 25 = .ok (.iload_n 3, 1) := by decide +kernel
theorem dX5_status_26 : decode cX5_status 26 = .ok (.bipush 7, 2) := by decide +kernel
theorem dX5_status_28 : decode cX5_status 28 = .ok (.if_icmp .ge 31, 3) := by decide +kernel
theorem dX5_status_31 : decode cX5_status 31 = .ok (.iload_n 2, 1) := by decide +kernel
theorem dX5_status_32 : decode cX5_status 32 = .ok (.iload_n 1, 1) := by decide +kernel
theorem dX5_status_33 : decode cX5_status 33 = .ok (.ifCond .lt 8, 3) := by decide +kernel
theorem dX5_status_36 : decode cX5_status 36 = .ok (.iload_n 3, 1) := by decide +kernel
theorem dX5_status_37 : decode cX5_status 37 = .ok (.iload_n 1, 1) := by decide +kernel
theorem dX5_status_38 : decode cX5_status 38 = .ok (.if_icmp .ne 12, 3) := by decide +kernel
theorem dX5_status_41 : decode cX5_status 41 = .ok (.aload_n 0, 1) := by decide +kernel
theorem dX5_status_42 : decode cX5_status 42 = .ok (.getfield 22, 3) := by decide +kernel
theorem dX5_status_45 : decode cX5_status 45 = .ok (.iload_n 3, 1) := by decide +kernel
theorem dX5_status_46 : decode cX5_status 46 = .ok (.iaload, 1) := by decide +kernel
theorem dX5_status_47 : decode cX5_status 47 = .ok (.goto 4, 3) := by decide +kernel
theorem dX5_status_50 : decode cX5_status 50 = .ok (.iconst 0, 1) := by decide +kernel
theorem dX5_status_51 : decode cX5_status 51 = .ok (.iadd, 1) := by decide +kernel
theorem dX5_status_52 : decode cX5_status 52 = .ok (.istore_n 2, 1) := by decide +kernel
theorem dX5_status_53 : decode cX5_status 53 = .ok (.iinc 3 1, 3) := by decide +kernel
theorem dX5_status_56 : decode cX5_status 56 = .ok (.goto (-31), 3) := by decide +kernel
theorem dX5_status_59 : decode cX5_status 59 = .ok (.iload_n 2, 1) := by decide +kernel
theorem dX5_status_60 : decode cX5_status 60 = .ok (.ireturn, 1) := by decide +kernel
theorem dJ6_bitCount_0f7a4_0 : decode cJ6_bitCount_0f7a4 0 = .ok (.iload_n 0, 1) := by decide +kernel
theorem dJ6_bitCount_0f7a4_1 : decode cJ6_bitCount_0f7a4 1 = .ok (.iload_n 0, 1) := by decide +kernel
theorem dJ6_bitCount_0f7a4_2 : decode cJ6_bitCount_0f7a4 2 = .ok (.iconst 1, 1) := by decide +kernel
theorem dJ6_bitCount_0f7a4_3 : decode cJ6_bitCount_0f7a4 3 = .ok (.iushr, 1) := by decide +kernel
theorem dJ6_bitCount_0f7a4_4 : decode cJ6_bitCount_0f7a4 4 = .ok (.ldc_w 265, 3) := by decide +kernel
theorem dJ6_bitCount_0f7a4_7 : decode cJ6_bitCount_0f7a4 7 = .ok (.iand, 1) := by decide +kernel
theorem dJ6_bitCount_0f7a4_8 : decode cJ6_bitCount_0f7a4 8 = .ok (.isub, 1) := by decide +kernel
theorem dJ6_bitCount_0f7a4_9 : decode cJ6_bitCount_0f7a4 9 = .ok (.istore_n 0, 1) := by decide +kernel
theorem dJ6_bitCount_0f7a4_10 : decode cJ6_bitCount_0f7a4 10 = .ok (.iload_n 0, 1) := by decide +kernel
theorem dJ6_bitCount_0f7a4_11 : decode cJ6_bitCount_0f7a4 11 = .ok (.ldc_w 266, 3) := by decide +kernel
theorem dJ6_bitCount_0f7a4_14 : decode cJ6_bitCount_0f7a4 14 = .ok (.iand, 1) := by decide +kernel
theorem dJ6_bitCount_0f7a4_15 : decode cJ6_bitCount_0f7a4 15 = .ok (.iload_n 0, 1) := by decide +kernel
theorem dJ6_bitCount_0f7a4_16 : decode cJ6_bitCount_0f7a4 16 = .ok (.iconst 2, 1) := by decide +kernel
theorem dJ6_bitCount_0f7a4_17 : decode cJ6_bitCount_0f7a4 17 = .ok (.iushr, 1) := by decide +kernel
theorem dJ6_bitCount_0f7a4_18 : decode cJ6_bitCount_0f7a4 18 = .ok (.ldc_w 266, 3) := by decide +kernel
theorem dJ6_bitCount_0f7a4_21 : decode cJ6_bitCount_0f7a4 21 = .ok (.iand, 1) := by decide +kernel
theorem dJ6_bitCount_0f7a4_22 : decode cJ6_bitCount_0f7a4 22 = .ok (.iadd, 1) := by decide +kernel
theorem dJ6_bitCount_0f7a4_23 : decode cJ6_bitCount_0f7a4 23 = .ok (.istore_n 0, 1) := by decide +kernel
theorem dJ6_bitCount_0f7a4_24 : decode cJ6_bitCount_0f7a4 24 = .ok (.iload_n 0, 1) := by decide +kernel
theorem dJ6_bitCount_0f7a4_25 : decode cJ6_bitCount_0f7a4 25 = .ok (.iload_n 0, 1) := by decide +kernel
theorem dJ6_bitCount_0f7a4_26 : decode cJ6_bitCount_0f7a4 26 = .ok (.iconst 4, 1) := by decide +kernel
theorem dJ6_bitCount_0f7a4_27 : decode cJ6_bitCount_0f7a4 27 = .ok (.iushr, 1) := by decide +kernel
theorem dJ6_bitCount_0f7a4_28 : decode cJ6_bitCount_0f7a4 28 = .ok (.iadd, 1) := by decide +kernel
theorem dJ6_bitCount_0f7a4_29 : decode cJ6_bitCount_0f7a4 29 = .ok (.ldc_w 267, 3) := by decide +kernel
theorem dJ6_bitCount_0f7a4_32 : decode cJ6_bitCount_0f7a4 32 = .ok (.iand, 1) := by decide +kernel
theorem dJ6_bitCount_0f7a4_33 : decode cJ6_bitCount_0f7a4 33 = .ok (.istore_n 0, 1) := by decide +kernel
theorem dJ6_bitCount_0f7a4_34 : decode cJ6_bitCount_0f7a4 34 = .ok (.iload_n 0, 1) := by decide +kernel
theorem dJ6_bitCount_0f7a4_35 : decode cJ6_bitCount_0f7a4 35 = .ok (.iload_n 0, 1) := by decide +kernel
theorem dJ6_bitCount_0f7a4_36 : decode cJ6_bitCount_0f7a4 36 = .ok (.bipush 8, 2) := by decide +kernel
theorem dJ6_bitCount_0f7a4_38 : decode cJ6_bitCount_0f7a4 38 = .ok (.iushr, 1) := by decide +kernel
theorem dJ6_bitCount_0f7a4_39 : decode cJ6_bitCount_0f7a4 39 = .ok (.iadd, 1) := by decide +kernel
theorem dJ6_bitCount_0f7a4_40 : decode cJ6_bitCount_0f7a4 40 = .ok (.istore_n 0, 1) := by decide +kernel
theorem dJ6_bitCount_0f7a4_41 : decode cJ6_bitCount_0f7a4 41 = .ok (.iload_n 0, 1) := by decide +kernel
theorem dJ6_bitCount_0f7a4_42 : decode cJ6_bitCount_0f7a4 42 = .ok (.iload_n 0, 1) := by decide +kernel
theorem dJ6_bitCount_0f7a4_43 : decode cJ6_bitCount_0f7a4 43 = .ok (.bipush 16, 2) := by decide +kernel
theorem dJ6_bitCount_0f7a4_45 : decode cJ6_bitCount_0f7a4 45 = .ok (.iushr, 1) := by decide +kernel
theorem dJ6_bitCount_0f7a4_46 : decode cJ6_bitCount_0f7a4 46 = .ok (.iadd, 1) := by decide +kernel
theorem dJ6_bitCount_0f7a4_47 : decode cJ6_bitCount_0f7a4 47 = .ok (.istore_n 0, 1) := by decide +kernel
theorem dJ6_bitCount_0f7a4_48 : decode cJ6_bitCount_0f7a4 48 = .ok (.iload_n 0, 1) := by decide +kernel
theorem dJ6_bitCount_0f7a4_49 : decode cJ6_bitCount_0f7a4 49 = .ok (.bipush 63, 2) := by decide +kernel
theorem dJ6_bitCount_0f7a4_51 : decode cJ6_bitCount_0f7a4 51 = .ok (.iand, 1) := by decide +kernel
theorem dJ6_bitCount_0f7a4_52 : decode cJ6_bitCount_0f7a4 52 = .ok (.ireturn, 1) := by decide +kernel
theorem dJ9_max_7cf53_0 : decode cJ9_max_7cf53 0 = .ok (.iload_n 0, 1) := by decide +kernel
theorem dJ9_max_7cf53_1 : decode cJ9_max_7cf53 1 = .ok (.iload_n 1, 1) := by decide +kernel
theorem dJ9_max_7cf53_2 : decode cJ9_max_7cf53 2 = .ok (.if_icmp .lt 7, 3) := by decide +kernel
theorem dJ9_max_7cf53_5 : decode cJ9_max_7cf53 5 = .ok (.iload_n 0, 1) := by decide +kernel
theorem dJ9_max_7cf53_6 : decode cJ9_max_7cf53 6 = .ok (.goto 4, 3) := by decide +kernel
theorem dJ9_max_7cf53_9 : decode cJ9_max_7cf53 9 = .ok (.iload_n 1, 1) := by decide +kernel
theorem dJ9_max_7cf53_10 : decode cJ9_max_7cf53 10 = .ok (.ireturn, 1) := by decide +kernel
theorem dJ9_min_7cf53_0 : decode cJ9_min_7cf53 0 = .ok (.iload_n 0, 1) := by decide +kernel
theorem dJ9_min_7cf53_1 : decode cJ9_min_7cf53 1 = .ok (.iload_n 1, 1) := by decide +kernel
theorem dJ9_min_7cf53_2 : decode cJ9_min_7cf53 2 = .ok (.if_icmp .gt 7, 3) := by decide +kernel
theorem dJ9_min_7cf53_5 : decode cJ9_min_7cf53 5 = .ok (.iload_n 0, 1) := by decide +kernel
theorem dJ9_min_7cf53_6 : decode cJ9_min_7cf53 6 = .ok (.goto 4, 3) := by decide +kernel
theorem dJ9_min_7cf53_9 : decode cJ9_min_7cf53 9 = .ok (.iload_n 1, 1) := by decide +kernel
theorem dJ9_min_7cf53_10 : decode cJ9_min_7cf53 10 = .ok (.ireturn, 1) := by decide +kernel
theorem dJ0_length_8abf5_0 : decode cJ0_length_8abf5 0 = .ok (.aload_n 0, 1) := by decide +kernel
theorem dJ0_length_8abf5_1 : decode cJ0_length_8abf5 1 = .ok (.getfield 9, 3) := by decide +kernel
theorem dJ0_length_8abf5_4 : decode cJ0_length_8abf5 4 = .ok (.arraylength, 1) := by decide +kernel
theorem dJ0_length_8abf5_5 : decode cJ0_length_8abf5 5 = .ok (.aload_n 0, 1) := by decide +kernel
theorem dJ0_length_8abf5_6 : decode cJ0_length_8abf5 6 = .ok (.invokevirtual 335, 3) := by decide +kernel
theorem dJ0_length_8abf5_9 : decode cJ0_length_8abf5 9 = .ok (.ishr, 1) := by decide +kernel
theorem dJ0_length_8abf5_10 : decode cJ0_length_8abf5 10 = .ok (.ireturn, 1) := by decide +kernel
theorem dJ0_charAt_5068e_0 : decode cJ0_charAt_5068e 0 = .ok (.aload_n 0, 1) := by decide +kernel
theorem dJ0_charAt_5068e_1 : decode cJ0_charAt_5068e 1 = .ok (.invokevirtual 492, 3) := by decide +kernel
theorem dJ0_charAt_5068e_4 : decode cJ0_charAt_5068e 4 = .ok (.ifCond .eq 12, 3) := by decide +kernel
theorem dJ0_charAt_5068e_7 : decode cJ0_charAt_5068e 7 = .ok (.aload_n 0, 1) := by decide +kernel
theorem dJ0_charAt_5068e_8 : decode cJ0_charAt_5068e 8 = .ok (.getfield 9, 3) := by decide +kernel
theorem dJ0_charAt_5068e_11 : decode cJ0_charAt_5068e 11 = .ok (.iload_n 1, 1) := by decide +kernel
theorem dJ0_charAt_5068e_12 : decode cJ0_charAt_5068e 12 = .ok (.invokestatic 495, 3) := by decide +kernel
theorem dJ0_charAt_5068e_15 : decode cJ0_charAt_5068e 15 = .ok (.ireturn, 1) := by decide +kernel
theorem dJ0_charAt_5068e_16 : decode cJ0_charAt_5068e 16 = .ok (.aload_n 0, 1) := by decide +kernel
theorem dJ0_charAt_5068e_17 : decode cJ0_charAt_5068e 17 = .ok (.getfield 9, 3) := by decide +kernel
theorem dJ0_charAt_5068e_20 : decode cJ0_charAt_5068e 20 = .ok (.iload_n 1, 1) := by decide +kernel
theorem dJ0_charAt_5068e_21 : decode cJ0_charAt_5068e 21 = .ok (.invokestatic 498, 3) := by decide +kernel
theorem dJ0_charAt_5068e_24 : decode cJ0_charAt_5068e 24 = .ok (.ireturn, 1) := by decide +kernel
theorem dJ0_coder_7d493_0 : decode cJ0_coder_7d493 0 = .ok (.getstatic 38, 3) := by decide +kernel
theorem dJ0_coder_7d493_3 : decode cJ0_coder_7d493 3 = .ok (.ifCond .eq 10, 3) := by decide +kernel
theorem dJ0_coder_7d493_6 : decode cJ0_coder_7d493 6 = .ok (.aload_n 0, 1) := by decide +kernel
theorem dJ0_coder_7d493_7 : decode cJ0_coder_7d493 7 = .ok (.getfield 15, 3) := by decide +kernel
theorem dJ0_coder_7d493_10 : decode cJ0_coder_7d493 10 = .ok (.goto 4, 3) := by decide +kernel
theorem dJ0_coder_7d493_13 : decode cJ0_coder_7d493 13 = .ok (.iconst 1, 1) := by decide +kernel
theorem dJ0_coder_7d493_14 : decode cJ0_coder_7d493 14 = .ok (.ireturn, 1) := by decide +kernel
theorem dJ0_isLatin1_aae02_0 : decode cJ0_isLatin1_aae02 0 = .ok (.getstatic 38, 3) := by decide +kernel
theorem dJ0_isLatin1_aae02_3 : decode cJ0_isLatin1_aae02 3 = .ok (.ifCond .eq 14, 3) := by decide +kernel
theorem dJ0_isLatin1_aae02_6 : decode cJ0_isLatin1_aae02 6 = .ok (.aload_n 0, 1) := by decide +kernel
theorem dJ0_isLatin1_aae02_7 : decode cJ0_isLatin1_aae02 7 = .ok (.getfield 15, 3) := by decide +kernel
theorem dJ0_isLatin1_aae02_10 : decode cJ0_isLatin1_aae02 10 = .ok (.ifCond .ne 7, 3) := by decide +kernel
theorem dJ0_isLatin1_aae02_13 : decode cJ0_isLatin1_aae02 13 = .ok (.iconst 1, 1) := by decide +kernel
theorem dJ0_isLatin1_aae02_14 : decode cJ0_isLatin1_aae02 14 = .ok (.goto 4, 3) := by decide +kernel
theorem dJ0_isLatin1_aae02_17 : decode cJ0_isLatin1_aae02 17 = .ok (.iconst 0, 1) := by decide +kernel
theorem dJ0_isLatin1_aae02_18 : decode cJ0_isLatin1_aae02 18 = .ok (.ireturn, 1) := by decide +kernel
theorem dJ0_checkIndex_df160_0 : decode cJ0_checkIndex_df160 0 = .ok (.iload_n 0, 1) := by decide +kernel
theorem dJ0_checkIndex_df160_1 : decode cJ0_checkIndex_df160 1 = .ok (.iload_n 1, 1) := by decide +kernel
theorem dJ0_checkIndex_df160_2 : decode cJ0_checkIndex_df160 2 = .ok (.getstatic 1053, 3) := by decide +kernel
theorem dJ0_checkIndex_df160_5 : decode cJ0_checkIndex_df160 5 = .ok (.invokestatic 1059, 3) := by decide +kernel
theorem dJ0_checkIndex_df160_8 : decode cJ0_checkIndex_df160 8 = .ok (.pop, 1) := by decide +kernel
theorem dJ0_checkIndex_df160_9 : decode cJ0_checkIndex_df160 9 = .ok (.return_, 1) := by decide +kernel
theorem dJ1_charAt_3b067_0 : decode cJ1_charAt_3b067 0 = .ok (.iload_n 1, 1) := by decide +kernel
theorem dJ1_charAt_3b067_1 : decode cJ1_charAt_3b067 1 = .ok (.aload_n 0, 1) := by decide +kernel
theorem dJ1_charAt_3b067_2 : decode cJ1_charAt_3b067 2 = .ok (.arraylength, 1) := by decide +kernel
theorem dJ1_charAt_3b067_3 : decode cJ1_charAt_3b067 3 = .ok (.invokestatic 9, 3) := by decide +kernel
theorem dJ1_charAt_3b067_6 : decode cJ1_charAt_3b067 6 = .ok (.aload_n 0, 1) := by decide +kernel
theorem dJ1_charAt_3b067_7 : decode cJ1_charAt_3b067 7 = .ok (.iload_n 1, 1) := by decide +kernel
theorem dJ1_charAt_3b067_8 : decode cJ1_charAt_3b067 8 = .ok (.baload, 1) := by decide +kernel
theorem dJ1_charAt_3b067_9 : decode cJ1_charAt_3b067 9 = .ok (.sipush 255, 3) := by decide +kernel
theorem dJ1_charAt_3b067_12 : decode cJ1_charAt_3b067 12 = .ok (.iand, 1) := by decide +kernel
theorem dJ1_charAt_3b067_13 : decode cJ1_charAt_3b067 13 = .ok (.i2c, 1) := by decide +kernel
theorem dJ1_charAt_3b067_14 : decode cJ1_charAt_3b067 14 = .ok (.ireturn, 1) := by decide +kernel
theorem dJ2_getChar_3b067_0 : decode cJ2_getChar_3b067 0 = .ok (.getstatic 44, 3) := by decide +kernel
theorem dJ2_getChar_3b067_3 : decode cJ2_getChar_3b067 3 = .ok (.ifCond .ne 25, 3) := by decide +kernel
theorem dJ2_getChar_3b067_6 : decode cJ2_getChar_3b067 6 = .ok (.iload_n 1, 1) := by decide +kernel
theorem dJ2_getChar_3b067_7 : decode cJ2_getChar_3b067 7 = .ok (.ifCond .lt 11, 3) := by decide +kernel
theorem dJ2_getChar_3b067_10 : decode cJ2_getChar_3b067 10 = .ok (.iload_n 1, 1) := by decide +kernel
theorem dJ2_getChar_3b067_11 : decode cJ2_getChar_3b067 11 = .ok (.aload_n 0, 1) := by decide +kernel
theorem dJ2_getChar_3b067_12 : decode cJ2_getChar_3b067 12 = .ok (.invokestatic 48, 3) := by decide +kernel
theorem dJ2_getChar_3b067_15 : decode cJ2_getChar_3b067 15 = .ok (.if_icmp .lt 13, 3) := by decide +kernel
theorem dJ2_getChar_3b067_18 : decode cJ2_getChar_3b067 18 = .ok (.new 52, 3) := by decide +kernel
theorem dJ2_getChar_3b067_21 : decode cJ2_getChar_3b067 21 = .ok (.dup, 1) := by decide +kernel
theorem dJ2_getChar_3b067_22 : decode cJ2_getChar_3b067 22 = .ok (.ldc 54, 2) := by decide +kernel
theorem dJ2_getChar_3b067_24 : decode cJ2_getChar_3b067 24 = .ok (.invokespecial 56, 3) := by decide +kernel
theorem dJ2_getChar_3b067_27 : decode cJ2_getChar_3b067 27 = .ok (.athrow, 1) := by decide +kernel
theorem dJ2_getChar_3b067_28 : decode cJ2_getChar_3b067 28 = .ok (.iload_n 1, 1) := by decide +kernel
theorem dJ2_getChar_3b067_29 : decode cJ2_getChar_3b067 29 = .ok (.iconst 1, 1) := by decide +kernel
theorem dJ2_getChar_3b067_30 : decode cJ2_getChar_3b067 30 = .ok (.ishl, 1) := by decide +kernel
theorem dJ2_getChar_3b067_31 : decode cJ2_getChar_3b067 31 = .ok (.istore_n 1, 1) := by decide +kernel
theorem dJ2_getChar_3b067_32 : decode cJ2_getChar_3b067 32 = .ok (.aload_n 0, 1) := by decide +kernel
theorem dJ2_getChar_3b067_33 : decode cJ2_getChar_3b067 33 = .ok (.iload_n 1, 1) := by decide +kernel
theorem dJ2_getChar_3b067_34 : decode cJ2_getChar_3b067 34 = .ok (.iinc 1 1, 3) := by decide +kernel
theorem dJ2_getChar_3b067_37 : decode cJ2_getChar_3b067 37 = .ok (.baload, 1) := by decide +kernel
theorem dJ2_getChar_3b067_38 : decode cJ2_getChar_3b067 38 = .ok (.sipush 255, 3) := by decide +kernel
theorem dJ2_getChar_3b067_41 : decode cJ2_getChar_3b067 41 = .ok (.iand, 1) := by decide +kernel
theorem dJ2_getChar_3b067_42 : decode cJ2_getChar_3b067 42 = .ok (.getstatic 59, 3) := by decide +kernel
theorem dJ2_getChar_3b067_45 : decode cJ2_getChar_3b067 45 = .ok (.ishl, 1) := by decide +kernel
theorem dJ2_getChar_3b067_46 : decode cJ2_getChar_3b067 46 = .ok (.aload_n 0, 1) := by decide +kernel
theorem dJ2_getChar_3b067_47 : decode cJ2_getChar_3b067 47 = .ok (.iload_n 1, 1) := by decide +kernel
theorem dJ2_getChar_3b067_48 : decode cJ2_getChar_3b067 48 = .ok (.baload, 1) := by decide +kernel
theorem dJ2_getChar_3b067_49 : decode cJ2_getChar_3b067 49 = .ok (.sipush 255, 3) := by decide +kernel
theorem dJ2_getChar_3b067_52 : decode cJ2_getChar_3b067 52 = .ok (.iand, 1) := by decide +kernel
theorem dJ2_getChar_3b067_53 : decode cJ2_getChar_3b067 53 = .ok (.getstatic 63, 3) := by decide +kernel
theorem dJ2_getChar_3b067_56 : decode cJ2_getChar_3b067 56 = .ok (.ishl, 1) := by decide +kernel
theorem dJ2_getChar_3b067_57 : decode cJ2_getChar_3b067 57 = .ok (.ior, 1) := by decide +kernel
theorem dJ2_getChar_3b067_58 : decode cJ2_getChar_3b067 58 = .ok (.i2c, 1) := by decide +kernel
theorem dJ2_getChar_3b067_59 : decode cJ2_getChar_3b067 59 = .ok (.ireturn, 1) := by decide +kernel
theorem dJ2_length_9d52b_0 : decode cJ2_length_9d52b 0 = .ok (.aload_n 0, 1) := by decide +kernel
theorem dJ2_length_9d52b_1 : decode cJ2_length_9d52b 1 = .ok (.arraylength, 1) := by decide +kernel
theorem dJ2_length_9d52b_2 : decode cJ2_length_9d52b 2 = .ok (.iconst 1, 1) := by decide +kernel
theorem dJ2_length_9d52b_3 : decode cJ2_length_9d52b 3 = .ok (.ishr, 1) := by decide +kernel
theorem dJ2_length_9d52b_4 : decode cJ2_length_9d52b 4 = .ok (.ireturn, 1) := by decide +kernel
theorem dJ2_charAt_3b067_0 : decode cJ2_charAt_3b067 0 = .ok (.iload_n 1, 1) := by decide +kernel
theorem dJ2_charAt_3b067_1 : decode cJ2_charAt_3b067 1 = .ok (.aload_n 0, 1) := by decide +kernel
theorem dJ2_charAt_3b067_2 : decode cJ2_charAt_3b067 2 = .ok (.invokestatic 67, 3) := by decide +kernel
theorem dJ2_charAt_3b067_5 : decode cJ2_charAt_3b067 5 = .ok (.aload_n 0, 1) := by decide +kernel
theorem dJ2_charAt_3b067_6 : decode cJ2_charAt_3b067 6 = .ok (.iload_n 1, 1) := by decide +kernel
theorem dJ2_charAt_3b067_7 : decode cJ2_charAt_3b067 7 = .ok (.invokestatic 71, 3) := by decide +kernel
theorem dJ2_charAt_3b067_10 : decode cJ2_charAt_3b067 10 = .ok (.ireturn, 1) := by decide +kernel
theorem dJ2_checkIndex_2214a_0 : decode cJ2_checkIndex_2214a 0 = .ok (.iload_n 0, 1) := by decide +kernel
theorem dJ2_checkIndex_2214a_1 : decode cJ2_checkIndex_2214a 1 = .ok (.aload_n 1, 1) := by decide +kernel
theorem dJ2_checkIndex_2214a_2 : decode cJ2_checkIndex_2214a 2 = .ok (.invokestatic 48, 3) := by decide +kernel
theorem dJ2_checkIndex_2214a_5 : decode cJ2_checkIndex_2214a 5 = .ok (.invokestatic 414, 3) := by decide +kernel
theorem dJ2_checkIndex_2214a_8 : decode cJ2_checkIndex_2214a 8 = .ok (.return_, 1) := by decide +kernel
theorem dJ3_checkIndex_8e157_0 : decode cJ3_checkIndex_8e157 0 = .ok (.iload_n 0, 1) := by decide +kernel
theorem dJ3_checkIndex_8e157_1 : decode cJ3_checkIndex_8e157 1 = .ok (.ifCond .lt 8, 3) := by decide +kernel
theorem dJ3_checkIndex_8e157_4 : decode cJ3_checkIndex_8e157 4 = .ok (.iload_n 0, 1) := by decide +kernel
theorem dJ3_checkIndex_8e157_5 : decode cJ3_checkIndex_8e157 5 = .ok (.iload_n 1, 1) := by decide +kernel
theorem dJ3_checkIndex_8e157_6 : decode cJ3_checkIndex_8e157 6 = .ok (.if_icmp .lt 10, 3) := by decide +kernel
theorem dJ3_checkIndex_8e157_9 : decode cJ3_checkIndex_8e157 9 = .ok (.aload_n 2, 1) := by decide +kernel
theorem dJ3_checkIndex_8e157_10 : decode cJ3_checkIndex_8e157 10 = .ok (.iload_n 0, 1) := by decide +kernel
theorem dJ3_checkIndex_8e157_11 : decode cJ3_checkIndex_8e157 11 = .ok (.iload_n 1, 1) := by decide +kernel
theorem dJ3_checkIndex_8e157_12 : decode cJ3_checkIndex_8e157 12 = .ok (.invokestatic 95, 3) := by decide +kernel
theorem dJ3_checkIndex_8e157_15 : decode cJ3_checkIndex_8e157 15 = .ok (.athrow, 1) := by decide +kernel
theorem dJ3_checkIndex_8e157_16 : decode cJ3_checkIndex_8e157 16 = .ok (.iload_n 0, 1) := by decide +kernel
theorem dJ3_checkIndex_8e157_17 : decode cJ3_checkIndex_8e157 17 = .ok (.ireturn, 1) := by decide +kernel
theorem dL_law_0 : decode cL_law 0 = .ok (.new 7, 3) := by decide +kernel
theorem dL_law_3 : decode cL_law 3 = .ok (.dup, 1) := by decide +kernel
theorem dL_law_4 : decode cL_law 4 = .ok (.invokespecial 9, 3) := by decide +kernel
theorem dL_law_7 : decode cL_law 7 = .ok (.astore_n 1, 1) := by decide +kernel
theorem dL_law_8 : decode cL_law 8 = .ok (.new 10, 3) := by decide +kernel
theorem dL_law_11 : decode cL_law 11 = .ok (.dup, 1) := by decide +kernel
theorem dL_law_12 : decode cL_law 12 = .ok (.invokespecial 12, 3) := by decide +kernel
theorem dL_law_15 : decode cL_law 15 = .ok (.astore_n 2, 1) := by decide +kernel
theorem dL_law_16 : decode cL_law 16 = .ok (.iconst 0, 1) := by decide +kernel
theorem dL_law_17 : decode cL_law 17 = .ok (.istore_n 3, 1) := by decide +kernel
theorem dL_law_18 : decode cL_law 18 = .ok (.iload_n 3, 1) := by decide +kernel
theorem dL_law_19 : decode cL_law 19 = .ok (.aload_n 0, 1) := by decide +kernel
theorem dL_law_20 : decode cL_law 20 = .ok (.arraylength, 1) := by decide +kernel
theorem dL_law_21 : decode cL_law 21 = .ok (.bipush 6, 2) := by decide +kernel
theorem dL_law_23 : decode cL_law 23 = .ok (.isub, 1) := by decide +kernel
theorem dL_law_24 : decode cL_law 24 = .ok (.if_icmp .gt 1311, 3) := by decide +kernel
theorem dL_law_27 : decode cL_law 27 = .ok (.aload_n 0, 1) := by decide +kernel
theorem dL_law_28 : decode cL_law 28 = .ok (.iload_n 3, 1) := by decide +kernel
theorem dL_law_29 : decode cL_law 29 = .ok (.iaload, 1) := by decide +kernel
theorem dL_law_30 : decode cL_law 30 = .ok (.bipush 63, 2) := by decide +kernel
theorem dL_law_32 : decode cL_law 32 = .ok (.iand, 1) := by decide +kernel
theorem dL_law_33 : decode cL_law 33 = .ok (.tableswitch 1296 0 39 #[175, 198, 231, 274, 297, 310, 333, 366, 409, 442, 475, 508, 531, 554, 597, 630, 653, 666, 689, 712, 745, 758, 791, 814, 847, 870, 883, 916, 929, 942, 985, 1059, 1122, 1145, 1178, 1211, 1224, 1237, 1250, 1273], 175) := by decide +kernel
theorem dL_law_208 : decode cL_law 208 = .ok (.aload_n 1, 1) := by decide +kernel
theorem dL_law_209 : decode cL_law 209 = .ok (.aload_n 0, 1) := by decide +kernel
theorem dL_law_210 : decode cL_law 210 = .ok (.iload_n 3, 1) := by decide +kernel
theorem dL_law_211 : decode cL_law 211 = .ok (.iconst 1, 1) := by decide +kernel
theorem dL_law_212 : decode cL_law 212 = .ok (.iadd, 1) := by decide +kernel
theorem dL_law_213 : decode cL_law 213 = .ok (.iaload, 1) := by decide +kernel
theorem dL_law_214 : decode cL_law 214 = .ok (.invokevirtual 13, 3) := by decide +kernel
theorem dL_law_217 : decode cL_law 217 = .ok (.aload_n 2, 1) := by decide +kernel
theorem dL_law_218 : decode cL_law 218 = .ok (.aload_n 0, 1) := by decide +kernel
theorem dL_law_219 : decode cL_law 219 = .ok (.iload_n 3, 1) := by decide +kernel
theorem dL_law_220 : decode cL_law 220 = .ok (.iconst 1, 1) := by decide +kernel
theorem dL_law_221 : decode cL_law 221 = .ok (.iadd, 1) := by decide +kernel
theorem dL_law_222 : decode cL_law 222 = .ok (.iaload, 1) := by decide +kernel
theorem dL_law_223 : decode cL_law 223 = .ok (.invokevirtual 17, 3) := by decide +kernel
theorem dL_law_226 : decode cL_law 226 = .ok (.if_icmp .eq 1103, 3) := by decide +kernel
theorem dL_law_229 : decode cL_law 229 = .ok (.iconst 0, 1) := by decide +kernel
theorem dL_law_230 : decode cL_law 230 = .ok (.ireturn, 1) := by decide +kernel
theorem dL_law_231 : decode cL_law 231 = .ok (.aload_n 1, 1) := by decide +kernel
theorem dL_law_232 : decode cL_law 232 = .ok (.aload_n 0, 1) := by decide +kernel
theorem dL_law_233 : decode cL_law 233 = .ok (.iload_n 3, 1) := by decide +kernel
theorem dL_law_234 : decode cL_law 234 = .ok (.iconst 1, 1) := by decide +kernel
theorem dL_law_235 : decode cL_law 235 = .ok (.iadd, 1) := by decide +kernel
theorem dL_law_236 : decode cL_law 236 = .ok (.iaload, 1) := by decide +kernel
theorem dL_law_237 : decode cL_law 237 = .ok (.aload_n 0, 1) := by decide +kernel
theorem dL_law_238 : decode cL_law 238 = .ok (.iload_n 3, 1) := by decide +kernel
theorem dL_law_239 : decode cL_law 239 = .ok (.iconst 2, 1) := by decide +kernel
theorem dL_law_240 : decode cL_law 240 = .ok (.iadd, 1) := by decide +kernel
theorem dL_law_241 : decode cL_law 241 = .ok (.iaload, 1) := by decide +kernel
theorem dL_law_242 : decode cL_law 242 = .ok (.invokevirtual 18, 3) := by decide +kernel
theorem dL_law_245 : decode cL_law 245 = .ok (.aload_n 2, 1) := by decide +kernel
theorem dL_law_246 : decode cL_law 246 = .ok (.aload_n 0, 1) := by decide +kernel
theorem dL_law_247 : decode cL_law 247 = .ok (.iload_n 3, 1) := by decide +kernel
theorem dL_law_248 : decode cL_law 248 = .ok (.iconst 1, 1) := by decide +kernel
theorem dL_law_249 : decode cL_law 249 = .ok (.iadd, 1) := by decide +kernel
theorem dL_law_250 : decode cL_law 250 = .ok (.iaload, 1) := by decide +kernel
theorem dL_law_251 : decode cL_law 251 = .ok (.aload_n 0, 1) := by decide +kernel
theorem dL_law_252 : decode cL_law 252 = .ok (.iload_n 3, 1) := by decide +kernel
theorem dL_law_253 : decode cL_law 253 = .ok (.iconst 2, 1) := by decide +kernel
theorem dL_law_254 : decode cL_law 254 = .ok (.iadd, 1) := by decide +kernel
theorem dL_law_255 : decode cL_law 255 = .ok (.iaload, 1) := by decide +kernel
theorem dL_law_256 : decode cL_law 256 = .ok (.invokevirtual 22, 3) := by decide +kernel
theorem dL_law_259 : decode cL_law 259 = .ok (.if_icmp .eq 1070, 3) := by decide +kernel
theorem dL_law_262 : decode cL_law 262 = .ok (.iconst 0, 1) := by decide +kernel
theorem dL_law_263 : decode cL_law 263 = .ok (.ireturn, 1) := by decide +kernel
theorem dL_law_264 : decode cL_law 264 = .ok (.aload_n 1, 1) := by decide +kernel
theorem dL_law_265 : decode cL_law 265 = .ok (.aload_n 0, 1) := by decide +kernel
theorem dL_law_266 : decode cL_law 266 = .ok (.iload_n 3, 1) := by decide +kernel
theorem dL_law_267 : decode cL_law 267 = .ok (.iconst 1, 1) := by decide +kernel
theorem dL_law_268 : decode cL_law 268 = .ok (.iadd, 1) := by decide +kernel
theorem dL_law_269 : decode cL_law 269 = .ok (.iaload, 1) := by decide +kernel
theorem dL_law_270 : decode cL_law 270 = .ok (.aload_n 0, 1) := by decide +kernel
theorem dL_law_271 : decode cL_law 271 = .ok (.iload_n 3, 1) := by decide +kernel
theorem dL_law_272 : decode cL_law 272 = .ok (.iconst 2, 1) := by decide +kernel
theorem dL_law_273 : decode cL_law 273 = .ok (.iadd, 1) := by decide +kernel
theorem dL_law_274 : decode cL_law 274 = .ok (.iaload, 1) := by decide +kernel
theorem dL_law_275 : decode cL_law 275 = .ok (.aload_n 0, 1) := by decide +kernel
theorem dL_law_276 : decode cL_law 276 = .ok (.iload_n 3, 1) := by decide +kernel
theorem dL_law_277 : decode cL_law 277 = .ok (.iconst 3, 1) := by decide +kernel
theorem dL_law_278 : decode cL_law 278 = .ok (.iadd, 1) := by decide +kernel
theorem dL_law_279 : decode cL_law 279 = .ok (.iaload, 1) := by decide +kernel
theorem dL_law_280 : decode cL_law 280 = .ok (.invokevirtual 23, 3) := by decide +kernel
theorem dL_law_283 : decode cL_law 283 = .ok (.aload_n 2, 1) := by decide +kernel
theorem dL_law_284 : decode cL_law 284 = .ok (.aload_n 0, 1) := by decide +kernel
theorem dL_law_285 : decode cL_law 285 = .ok (.iload_n 3, 1) := by decide +kernel
theorem dL_law_286 : decode cL_law 286 = .ok (.iconst 1, 1) := by decide +kernel
theorem dL_law_287 : decode cL_law 287 = .ok (.iadd, 1) := by decide +kernel
theorem dL_law_288 : decode cL_law 288 = .ok (.iaload, 1) := by decide +kernel
theorem dL_law_289 : decode cL_law 289 = .ok (.aload_n 0, 1) := by decide +kernel
theorem dL_law_290 : decode cL_law 290 = .ok (.iload_n 3, 1) := by decide +kernel
theorem dL_law_291 : decode cL_law 291 = .ok (.iconst 2, 1) := by decide +kernel
theorem dL_law_292 : decode cL_law 292 = .ok (.iadd, 1) := by decide +kernel
theorem dL_law_293 : decode cL_law 293 = .ok (.iaload, 1) := by decide +kernel
theorem dL_law_294 : decode cL_law 294 = .ok (.aload_n 0, 1) := by decide +kernel
theorem dL_law_295 : decode cL_law 295 = .ok (.iload_n 3, 1) := by decide +kernel
theorem dL_law_296 : decode cL_law 296 = .ok (.iconst 3, 1) := by decide +kernel
theorem dL_law_297 : decode cL_law 297 = .ok (.iadd, 1) := by decide +kernel
theorem dL_law_298 : decode cL_law 298 = .ok (.iaload, 1) := by decide +kernel
theorem dL_law_299 : decode cL_law 299 = .ok (.invokevirtual 27, 3) := by decide +kernel
theorem dL_law_302 : decode cL_law 302 = .ok (.if_icmp .eq 1027, 3) := by decide +kernel
theorem dL_law_305 : decode cL_law 305 = .ok (.iconst 0, 1) := by decide +kernel
theorem dL_law_306 : decode cL_law 306 = .ok (.ireturn, 1) := by decide +kernel
theorem dL_law_307 : decode cL_law 307 = .ok (.aload_n 1, 1) := by decide +kernel
theorem dL_law_308 : decode cL_law 308 = .ok (.aload_n 0, 1) := by decide +kernel
theorem dL_law_309 : decode cL_law 309 = .ok (.iload_n 3, 1) := by decide +kernel
theorem dL_law_310 : decode cL_law 310 = .ok (.iconst 1, 1) := by decide +kernel
theorem dL_law_311 : decode cL_law 311 = .ok (.iadd, 1) := by decide +kernel
theorem dL_law_312 : decode cL_law 312 = .ok (.iaload, 1) := by decide +kernel
theorem dL_law_313 : decode cL_law 313 = .ok (.invokevirtual 28, 3) := by decide +kernel
theorem dL_law_316 : decode cL_law 316 = .ok (.aload_n 2, 1) := by decide +kernel
theorem dL_law_317 : decode cL_law 317 = .ok (.aload_n 0, 1) := by decide +kernel
theorem dL_law_318 : decode cL_law 318 = .ok (.iload_n 3, 1) := by decide +kernel
theorem dL_law_319 : decode cL_law 319 = .ok (.iconst 1, 1) := by decide +kernel
theorem dL_law_320 : decode cL_law 320 = .ok (.iadd, 1) := by decide +kernel
theorem dL_law_321 : decode cL_law 321 = .ok (.iaload, 1) := by decide +kernel
theorem dL_law_322 : decode cL_law 322 = .ok (.invokevirtual 31, 3) := by decide +kernel
theorem dL_law_325 : decode cL_law 325 = .ok (.if_icmp .eq 1004, 3) := by decide +kernel
theorem dL_law_328 : decode cL_law 328 = .ok (.iconst 0, 1) := by decide +kernel
theorem dL_law_329 : decode cL_law 329 = .ok (.ireturn, 1) := by decide +kernel
theorem dL_law_330 : decode cL_law 330 = .ok (.aload_n 1, 1) := by decide +kernel
theorem dL_law_331 : decode cL_law 331 = .ok (.invokevirtual 32, 3) := by decide +kernel
theorem dL_law_334 : decode cL_law 334 = .ok (.aload_n 2, 1) := by decide +kernel
theorem dL_law_335 : decode cL_law 335 = .ok (.invokevirtual 36, 3) := by decide +kernel
theorem dL_law_338 : decode cL_law 338 = .ok (.if_icmp .eq 991, 3) := by decide +kernel
theorem dL_law_341 : decode cL_law 341 = .ok (.iconst 0, 1) := by decide +kernel
theorem dL_law_342 : decode cL_law 342 = .ok (.ireturn, 1) := by decide +kernel
theorem dL_law_343 : decode cL_law 343 = .ok (.aload_n 1, 1) := by decide +kernel
theorem dL_law_344 : decode cL_law 344 = .ok (.aload_n 0, 1) := by decide +kernel
theorem dL_law_345 : decode cL_law 345 = .ok (.iload_n 3, 1) := by decide +kernel
theorem dL_law_346 : decode cL_law 346 = .ok (.iconst 1, 1) := by decide +kernel
theorem dL_law_347 : decode cL_law 347 = .ok (.iadd, 1) := by decide +kernel
theorem dL_law_348 : decode cL_law 348 = .ok (.iaload, 1) := by decide +kernel
theorem dL_law_349 : decode cL_law 349 = .ok (.invokevirtual 37, 3) := by decide +kernel
theorem dL_law_352 : decode cL_law 352 = .ok (.aload_n 2, 1) := by decide +kernel
theorem dL_law_353 : decode cL_law 353 = .ok (.aload_n 0, 1) := by decide +kernel
theorem dL_law_354 : decode cL_law 354 = .ok (.iload_n 3, 1) := by decide +kernel
theorem dL_law_355 : decode cL_law 355 = .ok (.iconst 1, 1) := by decide +kernel
theorem dL_law_356 : decode cL_law 356 = .ok (.iadd, 1) := by decide +kernel
theorem dL_law_357 : decode cL_law 357 = .ok (.iaload, 1) := by decide +kernel
theorem dL_law_358 : decode cL_law 358 = .ok (.invokevirtual 40, 3) := by decide +kernel
theorem dL_law_361 : decode cL_law 361 = .ok (.if_icmp .eq 968, 3) := by decide +kernel
theorem dL_law_364 : decode cL_law 364 = .ok (.iconst 0, 1) := by decide +kernel
theorem dL_law_365 : decode cL_law 365 = .ok (.ireturn, 1) := by decide +kernel
theorem dL_law_366 : decode cL_law 366 = .ok (.aload_n 1, 1) := by decide +kernel
theorem dL_law_367 : decode cL_law 367 = .ok (.aload_n 0, 1) := by decide +kernel
theorem dL_law_368 : decode cL_law 368 = .ok (.iload_n 3, 1) := by decide +kernel
theorem dL_law_369 : decode cL_law 369 = .ok (.iconst 1, 1) := by decide +kernel
theorem dL_law_370 : decode cL_law 370 = .ok (.iadd, 1) := by decide +kernel
theorem dL_law_371 : decode cL_law 371 = .ok (.iaload, 1) := by decide +kernel
theorem dL_law_372 : decode cL_law 372 = .ok (.aload_n 0, 1) := by decide +kernel
theorem dL_law_373 : decode cL_law 373 = .ok (.iload_n 3, 1) := by decide +kernel
theorem dL_law_374 : decode cL_law 374 = .ok (.iconst 2, 1) := by decide +kernel
theorem dL_law_375 : decode cL_law 375 = .ok (.iadd, 1) := by decide +kernel
theorem dL_law_376 : decode cL_law 376 = .ok (.iaload, 1) := by decide +kernel
theorem dL_law_377 : decode cL_law 377 = .ok (.invokevirtual 41, 3) := by decide +kernel
theorem dL_law_380 : decode cL_law 380 = .ok (.aload_n 2, 1) := by decide +kernel
theorem dL_law_381 : decode cL_law 381 = .ok (.aload_n 0, 1) := by decide +kernel
theorem dL_law_382 : decode cL_law 382 = .ok (.iload_n 3, 1) := by decide +kernel
theorem dL_law_383 : decode cL_law 383 = .ok (.iconst 1, 1) := by decide +kernel
theorem dL_law_384 : decode cL_law 384 = .ok (.iadd, 1) := by decide +kernel
theorem dL_law_385 : decode cL_law 385 = .ok (.iaload, 1) := by decide +kernel
theorem dL_law_386 : decode cL_law 386 = .ok (.aload_n 0, 1) := by decide +kernel
theorem dL_law_387 : decode cL_law 387 = .ok (.iload_n 3, 1) := by decide +kernel
theorem dL_law_388 : decode cL_law 388 = .ok (.iconst 2, 1) := by decide +kernel
theorem dL_law_389 : decode cL_law 389 = .ok (.iadd, 1) := by decide +kernel
theorem dL_law_390 : decode cL_law 390 = .ok (.iaload, 1) := by decide +kernel
theorem dL_law_391 : decode cL_law 391 = .ok (.invokevirtual 44, 3) := by decide +kernel
theorem dL_law_394 : decode cL_law 394 = .ok (.if_icmp .eq 935, 3) := by decide +kernel
theorem dL_law_397 : decode cL_law 397 = .ok (.iconst 0, 1) := by decide +kernel
theorem dL_law_398 : decode cL_law 398 = .ok (.ireturn, 1) := by decide +kernel
theorem dL_law_399 : decode cL_law 399 = .ok (.aload_n 1, 1) := by decide +kernel
theorem dL_law_400 : decode cL_law 400 = .ok (.aload_n 0, 1) := by decide +kernel
theorem dL_law_401 : decode cL_law 401 = .ok (.iload_n 3, 1) := by decide +kernel
theorem dL_law_402 : decode cL_law 402 = .ok (.iconst 1, 1) := by decide +kernel
theorem dL_law_403 : decode cL_law 403 = .ok (.iadd, 1) := by decide +kernel
theorem dL_law_404 : decode cL_law 404 = .ok (.iaload, 1) := by decide +kernel
theorem dL_law_405 : decode cL_law 405 = .ok (.aload_n 0, 1) := by decide +kernel
theorem dL_law_406 : decode cL_law 406 = .ok (.iload_n 3, 1) := by decide +kernel
theorem dL_law_407 : decode cL_law 407 = .ok (.iconst 2, 1) := by decide +kernel
theorem dL_law_408 : decode cL_law 408 = .ok (.iadd, 1) := by decide +kernel
theorem dL_law_409 : decode cL_law 409 = .ok (.iaload, 1) := by decide +kernel
theorem dL_law_410 : decode cL_law 410 = .ok (.aload_n 0, 1) := by decide +kernel
theorem dL_law_411 : decode cL_law 411 = .ok (.iload_n 3, 1) := by decide +kernel
theorem dL_law_412 : decode cL_law 412 = .ok (.iconst 3, 1) := by decide +kernel
theorem dL_law_413 : decode cL_law 413 = .ok (.iadd, 1) := by decide +kernel
theorem dL_law_414 : decode cL_law 414 = .ok (.iaload, 1) := by decide +kernel
theorem dL_law_415 : decode cL_law 415 = .ok (.invokevirtual 45, 3) := by decide +kernel
theorem dL_law_418 : decode cL_law 418 = .ok (.aload_n 2, 1) := by decide +kernel
theorem dL_law_419 : decode cL_law 419 = .ok (.aload_n 0, 1) := by decide +kernel
theorem dL_law_420 : decode cL_law 420 = .ok (.iload_n 3, 1) := by decide +kernel
theorem dL_law_421 : decode cL_law 421 = .ok (.iconst 1, 1) := by decide +kernel
theorem dL_law_422 : decode cL_law 422 = .ok (.iadd, 1) := by decide +kernel
theorem dL_law_423 : decode cL_law 423 = .ok (.iaload, 1) := by decide +kernel
theorem dL_law_424 : decode cL_law 424 = .ok (.aload_n 0, 1) := by decide +kernel
theorem dL_law_425 : decode cL_law 425 = .ok (.iload_n 3, 1) := by decide +kernel
theorem dL_law_426 : decode cL_law 426 = .ok (.iconst 2, 1) := by decide +kernel
theorem dL_law_427 : decode cL_law 427 = .ok (.iadd, 1) := by decide +kernel
theorem dL_law_428 : decode cL_law 428 = .ok (.iaload, 1) := by decide +kernel
theorem dL_law_429 : decode cL_law 429 = .ok (.aload_n 0, 1) := by decide +kernel
theorem dL_law_430 : decode cL_law 430 = .ok (.iload_n 3, 1) := by decide +kernel
theorem dL_law_431 : decode cL_law 431 = .ok (.iconst 3, 1) := by decide +kernel
theorem dL_law_432 : decode cL_law 432 = .ok (.iadd, 1) := by decide +kernel
theorem dL_law_433 : decode cL_law 433 = .ok (.iaload, 1) := by decide +kernel
theorem dL_law_434 : decode cL_law 434 = .ok (.invokevirtual 48, 3) := by decide +kernel
theorem dL_law_437 : decode cL_law 437 = .ok (.if_icmp .eq 892, 3) := by decide +kernel
theorem dL_law_440 : decode cL_law 440 = .ok (.iconst 0, 1) := by decide +kernel
theorem dL_law_441 : decode cL_law 441 = .ok (.ireturn, 1) := by decide +kernel
theorem dL_law_442 : decode cL_law 442 = .ok (.aload_n 1, 1) := by decide +kernel
theorem dL_law_443 : decode cL_law 443 = .ok (.aload_n 0, 1) := by decide +kernel
theorem dL_law_444 : decode cL_law 444 = .ok (.iload_n 3, 1) := by decide +kernel
theorem dL_law_445 : decode cL_law 445 = .ok (.iconst 1, 1) := by decide +kernel
theorem dL_law_446 : decode cL_law 446 = .ok (.iadd, 1) := by decide +kernel
theorem dL_law_447 : decode cL_law 447 = .ok (.iaload, 1) := by decide +kernel
theorem dL_law_448 : decode cL_law 448 = .ok (.aload_n 0, 1) := by decide +kernel
theorem dL_law_449 : decode cL_law 449 = .ok (.iload_n 3, 1) := by decide +kernel
theorem dL_law_450 : decode cL_law 450 = .ok (.iconst 2, 1) := by decide +kernel
theorem dL_law_451 : decode cL_law 451 = .ok (.iadd, 1) := by decide +kernel
theorem dL_law_452 : decode cL_law 452 = .ok (.iaload, 1) := by decide +kernel
theorem dL_law_453 : decode cL_law 453 = .ok (.invokevirtual 49, 3) := by decide +kernel
theorem dL_law_456 : decode cL_law 456 = .ok (.aload_n 2, 1) := by decide +kernel
theorem dL_law_457 : decode cL_law 457 = .ok (.aload_n 0, 1) := by decide +kernel
theorem dL_law_458 : decode cL_law 458 = .ok (.iload_n 3, 1) := by decide +kernel
theorem dL_law_459 : decode cL_law 459 = .ok (.iconst 1, 1) := by decide +kernel
theorem dL_law_460 : decode cL_law 460 = .ok (.iadd, 1) := by decide +kernel
theorem dL_law_461 : decode cL_law 461 = .ok (.iaload, 1) := by decide +kernel
theorem dL_law_462 : decode cL_law 462 = .ok (.aload_n 0, 1) := by decide +kernel
theorem dL_law_463 : decode cL_law 463 = .ok (.iload_n 3, 1) := by decide +kernel
theorem dL_law_464 : decode cL_law 464 = .ok (.iconst 2, 1) := by decide +kernel
theorem dL_law_465 : decode cL_law 465 = .ok (.iadd, 1) := by decide +kernel
theorem dL_law_466 : decode cL_law 466 = .ok (.iaload, 1) := by decide +kernel
theorem dL_law_467 : decode cL_law 467 = .ok (.invokevirtual 52, 3) := by decide +kernel
theorem dL_law_470 : decode cL_law 470 = .ok (.if_icmp .eq 859, 3) := by decide +kernel
theorem dL_law_473 : decode cL_law 473 = .ok (.iconst 0, 1) := by decide +kernel
theorem dL_law_474 : decode cL_law 474 = .ok (.ireturn, 1) := by decide +kernel
theorem dL_law_475 : decode cL_law 475 = .ok (.aload_n 1, 1) := by decide +kernel
theorem dL_law_476 : decode cL_law 476 = .ok (.aload_n 0, 1) := by decide +kernel
theorem dL_law_477 : decode cL_law 477 = .ok (.iload_n 3, 1) := by decide +kernel
theorem dL_law_478 : decode cL_law 478 = .ok (.iconst 1, 1) := by decide +kernel
theorem dL_law_479 : decode cL_law 479 = .ok (.iadd, 1) := by decide +kernel
theorem dL_law_480 : decode cL_law 480 = .ok (.iaload, 1) := by decide +kernel
theorem dL_law_481 : decode cL_law 481 = .ok (.aload_n 0, 1) := by decide +kernel
theorem dL_law_482 : decode cL_law 482 = .ok (.iload_n 3, 1) := by decide +kernel
theorem dL_law_483 : decode cL_law 483 = .ok (.iconst 2, 1) := by decide +kernel
theorem dL_law_484 : decode cL_law 484 = .ok (.iadd, 1) := by decide +kernel
theorem dL_law_485 : decode cL_law 485 = .ok (.iaload, 1) := by decide +kernel
theorem dL_law_486 : decode cL_law 486 = .ok (.invokevirtual 53, 3) := by decide +kernel
theorem dL_law_489 : decode cL_law 489 = .ok (.aload_n 2, 1) := by decide +kernel
theorem dL_law_490 : decode cL_law 490 = .ok (.aload_n 0, 1) := by decide +kernel
theorem dL_law_491 : decode cL_law 491 = .ok (.iload_n 3, 1) := by decide +kernel
theorem dL_law_492 : decode cL_law 492 = .ok (.iconst 1, 1) := by decide +kernel
theorem dL_law_493 : decode cL_law 493 = .ok (.iadd, 1) := by decide +kernel
theorem dL_law_494 : decode cL_law 494 = .ok (.iaload, 1) := by decide +kernel
theorem dL_law_495 : decode cL_law 495 = .ok (.aload_n 0, 1) := by decide +kernel
theorem dL_law_496 : decode cL_law 496 = .ok (.iload_n 3, 1) := by decide +kernel
theorem dL_law_497 : decode cL_law 497 = .ok (.iconst 2, 1) := by decide +kernel
theorem dL_law_498 : decode cL_law 498 = .ok (.iadd, 1) := by decide +kernel
theorem dL_law_499 : decode cL_law 499 = .ok (.iaload, 1) := by decide +kernel
theorem dL_law_500 : decode cL_law 500 = .ok (.invokevirtual 56, 3) := by decide +kernel
theorem dL_law_503 : decode cL_law 503 = .ok (.if_icmp .eq 826, 3) := by decide +kernel
theorem dL_law_506 : decode cL_law 506 = .ok (.iconst 0, 1) := by decide +kernel
theorem dL_law_507 : decode cL_law 507 = .ok (.ireturn, 1) := by decide +kernel
theorem dL_law_508 : decode cL_law 508 = .ok (.aload_n 1, 1) := by decide +kernel
theorem dL_law_509 : decode cL_law 509 = .ok (.aload_n 0, 1) := by decide +kernel
theorem dL_law_510 : decode cL_law 510 = .ok (.iload_n 3, 1) := by decide +kernel
theorem dL_law_511 : decode cL_law 511 = .ok (.iconst 1, 1) := by decide +kernel
theorem dL_law_512 : decode cL_law 512 = .ok (.iadd, 1) := by decide +kernel
theorem dL_law_513 : decode cL_law 513 = .ok (.iaload, 1) := by decide +kernel
theorem dL_law_514 : decode cL_law 514 = .ok (.aload_n 0, 1) := by decide +kernel
theorem dL_law_515 : decode cL_law 515 = .ok (.iload_n 3, 1) := by decide +kernel
theorem dL_law_516 : decode cL_law 516 = .ok (.iconst 2, 1) := by decide +kernel
theorem dL_law_517 : decode cL_law 517 = .ok (.iadd, 1) := by decide +kernel
theorem dL_law_518 : decode cL_law 518 = .ok (.iaload, 1) := by decide +kernel
theorem dL_law_519 : decode cL_law 519 = .ok (.invokevirtual 57, 3) := by decide +kernel
theorem dL_law_522 : decode cL_law 522 = .ok (.aload_n 2, 1) := by decide +kernel
theorem dL_law_523 : decode cL_law 523 = .ok (.aload_n 0, 1) := by decide +kernel
theorem dL_law_524 : decode cL_law 524 = .ok (.iload_n 3, 1) := by decide +kernel
theorem dL_law_525 : decode cL_law 525 = .ok (.iconst 1, 1) := by decide +kernel
theorem dL_law_526 : decode cL_law 526 = .ok (.iadd, 1) := by decide +kernel
theorem dL_law_527 : decode cL_law 527 = .ok (.iaload, 1) := by decide +kernel
theorem dL_law_528 : decode cL_law 528 = .ok (.aload_n 0, 1) := by decide +kernel
theorem dL_law_529 : decode cL_law 529 = .ok (.iload_n 3, 1) := by decide +kernel
theorem dL_law_530 : decode cL_law 530 = .ok (.iconst 2, 1) := by decide +kernel
theorem dL_law_531 : decode cL_law 531 = .ok (.iadd, 1) := by decide +kernel
theorem dL_law_532 : decode cL_law 532 = .ok (.iaload, 1) := by decide +kernel
theorem dL_law_533 : decode cL_law 533 = .ok (.invokevirtual 60, 3) := by decide +kernel
theorem dL_law_536 : decode cL_law 536 = .ok (.if_icmp .eq 793, 3) := by decide +kernel
theorem dL_law_539 : decode cL_law 539 = .ok (.iconst 0, 1) := by decide +kernel
theorem dL_law_540 : decode cL_law 540 = .ok (.ireturn, 1) := by decide +kernel
theorem dL_law_541 : decode cL_law 541 = .ok (.aload_n 1, 1) := by decide +kernel
theorem dL_law_542 : decode cL_law 542 = .ok (.aload_n 0, 1) := by decide +kernel
theorem dL_law_543 : decode cL_law 543 = .ok (.iload_n 3, 1) := by decide +kernel
theorem dL_law_544 : decode cL_law 544 = .ok (.iconst 1, 1) := by decide +kernel
theorem dL_law_545 : decode cL_law 545 = .ok (.iadd, 1) := by decide +kernel
theorem dL_law_546 : decode cL_law 546 = .ok (.iaload, 1) := by decide +kernel
theorem dL_law_547 : decode cL_law 547 = .ok (.invokevirtual 61, 3) := by decide +kernel
theorem dL_law_550 : decode cL_law 550 = .ok (.aload_n 2, 1) := by decide +kernel
theorem dL_law_551 : decode cL_law 551 = .ok (.aload_n 0, 1) := by decide +kernel
theorem dL_law_552 : decode cL_law 552 = .ok (.iload_n 3, 1) := by decide +kernel
theorem dL_law_553 : decode cL_law 553 = .ok (.iconst 1, 1) := by decide +kernel
theorem dL_law_554 : decode cL_law 554 = .ok (.iadd, 1) := by decide +kernel
theorem dL_law_555 : decode cL_law 555 = .ok (.iaload, 1) := by decide +kernel
theorem dL_law_556 : decode cL_law 556 = .ok (.invokevirtual 64, 3) := by decide +kernel
theorem dL_law_559 : decode cL_law 559 = .ok (.if_icmp .eq 770, 3) := by decide +kernel
theorem dL_law_562 : decode cL_law 562 = .ok (.iconst 0, 1) := by decide +kernel
theorem dL_law_563 : decode cL_law 563 = .ok (.ireturn, 1) := by decide +kernel
theorem dL_law_564 : decode cL_law 564 = .ok (.aload_n 1, 1) := by decide +kernel
theorem dL_law_565 : decode cL_law 565 = .ok (.aload_n 0, 1) := by decide +kernel
theorem dL_law_566 : decode cL_law 566 = .ok (.iload_n 3, 1) := by decide +kernel
theorem dL_law_567 : decode cL_law 567 = .ok (.iconst 1, 1) := by decide +kernel
theorem dL_law_568 : decode cL_law 568 = .ok (.iadd, 1) := by decide +kernel
theorem dL_law_569 : decode cL_law 569 = .ok (.iaload, 1) := by decide +kernel
theorem dL_law_570 : decode cL_law 570 = .ok (.invokevirtual 65, 3) := by decide +kernel
theorem dL_law_573 : decode cL_law 573 = .ok (.aload_n 2, 1) := by decide +kernel
theorem dL_law_574 : decode cL_law 574 = .ok (.aload_n 0, 1) := by decide +kernel
theorem dL_law_575 : decode cL_law 575 = .ok (.iload_n 3, 1) := by decide +kernel
theorem dL_law_576 : decode cL_law 576 = .ok (.iconst 1, 1) := by decide +kernel
theorem dL_law_577 : decode cL_law 577 = .ok (.iadd, 1) := by decide +kernel
theorem dL_law_578 : decode cL_law 578 = .ok (.iaload, 1) := by decide +kernel
theorem dL_law_579 : decode cL_law 579 = .ok (.invokevirtual 68, 3) := by decide +kernel
theorem dL_law_582 : decode cL_law 582 = .ok (.if_icmp .eq 747, 3) := by decide +kernel
theorem dL_law_585 : decode cL_law 585 = .ok (.iconst 0, 1) := by decide +kernel
theorem dL_law_586 : decode cL_law 586 = .ok (.ireturn, 1) := by decide +kernel
theorem dL_law_587 : decode cL_law 587 = .ok (.aload_n 1, 1) := by decide +kernel
theorem dL_law_588 : decode cL_law 588 = .ok (.aload_n 0, 1) := by decide +kernel
theorem dL_law_589 : decode cL_law 589 = .ok (.iload_n 3, 1) := by decide +kernel
theorem dL_law_590 : decode cL_law 590 = .ok (.iconst 1, 1) := by decide +kernel
theorem dL_law_591 : decode cL_law 591 = .ok (.iadd, 1) := by decide +kernel
theorem dL_law_592 : decode cL_law 592 = .ok (.iaload, 1) := by decide +kernel
theorem dL_law_593 : decode cL_law 593 = .ok (.aload_n 0, 1) := by decide +kernel
theorem dL_law_594 : decode cL_law 594 = .ok (.iload_n 3, 1) := by decide +kernel
theorem dL_law_595 : decode cL_law 595 = .ok (.iconst 2, 1) := by decide +kernel
theorem dL_law_596 : decode cL_law 596 = .ok (.iadd, 1) := by decide +kernel
theorem dL_law_597 : decode cL_law 597 = .ok (.iaload, 1) := by decide +kernel
theorem dL_law_598 : decode cL_law 598 = .ok (.aload_n 0, 1) := by decide +kernel
theorem dL_law_599 : decode cL_law 599 = .ok (.iload_n 3, 1) := by decide +kernel
theorem dL_law_600 : decode cL_law 600 = .ok (.iconst 3, 1) := by decide +kernel
theorem dL_law_601 : decode cL_law 601 = .ok (.iadd, 1) := by decide +kernel
theorem dL_law_602 : decode cL_law 602 = .ok (.iaload, 1) := by decide +kernel
theorem dL_law_603 : decode cL_law 603 = .ok (.invokevirtual 69, 3) := by decide +kernel
theorem dL_law_606 : decode cL_law 606 = .ok (.aload_n 2, 1) := by decide +kernel
theorem dL_law_607 : decode cL_law 607 = .ok (.aload_n 0, 1) := by decide +kernel
theorem dL_law_608 : decode cL_law 608 = .ok (.iload_n 3, 1) := by decide +kernel
theorem dL_law_609 : decode cL_law 609 = .ok (.iconst 1, 1) := by decide +kernel
theorem dL_law_610 : decode cL_law 610 = .ok (.iadd, 1) := by decide +kernel
theorem dL_law_611 : decode cL_law 611 = .ok (.iaload, 1) := by decide +kernel
theorem dL_law_612 : decode cL_law 612 = .ok (.aload_n 0, 1) := by decide +kernel
theorem dL_law_613 : decode cL_law 613 = .ok (.iload_n 3, 1) := by decide +kernel
theorem dL_law_614 : decode cL_law 614 = .ok (.iconst 2, 1) := by decide +kernel
theorem dL_law_615 : decode cL_law 615 = .ok (.iadd, 1) := by decide +kernel
theorem dL_law_616 : decode cL_law 616 = .ok (.iaload, 1) := by decide +kernel
theorem dL_law_617 : decode cL_law 617 = .ok (.aload_n 0, 1) := by decide +kernel
theorem dL_law_618 : decode cL_law 618 = .ok (.iload_n 3, 1) := by decide +kernel
theorem dL_law_619 : decode cL_law 619 = .ok (.iconst 3, 1) := by decide +kernel
theorem dL_law_620 : decode cL_law 620 = .ok (.iadd, 1) := by decide +kernel
theorem dL_law_621 : decode cL_law 621 = .ok (.iaload, 1) := by decide +kernel
theorem dL_law_622 : decode cL_law 622 = .ok (.invokevirtual 72, 3) := by decide +kernel
theorem dL_law_625 : decode cL_law 625 = .ok (.if_icmp .eq 704, 3) := by decide +kernel
theorem dL_law_628 : decode cL_law 628 = .ok (.iconst 0, 1) := by decide +kernel
theorem dL_law_629 : decode cL_law 629 = .ok (.ireturn, 1) := by decide +kernel
theorem dL_law_630 : decode cL_law 630 = .ok (.aload_n 1, 1) := by decide +kernel
theorem dL_law_631 : decode cL_law 631 = .ok (.aload_n 0, 1) := by decide +kernel
theorem dL_law_632 : decode cL_law 632 = .ok (.iload_n 3, 1) := by decide +kernel
theorem dL_law_633 : decode cL_law 633 = .ok (.iconst 1, 1) := by decide +kernel
theorem dL_law_634 : decode cL_law 634 = .ok (.iadd, 1) := by decide +kernel
theorem dL_law_635 : decode cL_law 635 = .ok (.iaload, 1) := by decide +kernel
theorem dL_law_636 : decode cL_law 636 = .ok (.aload_n 0, 1) := by decide +kernel
theorem dL_law_637 : decode cL_law 637 = .ok (.iload_n 3, 1) := by decide +kernel
theorem dL_law_638 : decode cL_law 638 = .ok (.iconst 2, 1) := by decide +kernel
theorem dL_law_639 : decode cL_law 639 = .ok (.iadd, 1) := by decide +kernel
theorem dL_law_640 : decode cL_law 640 = .ok (.iaload, 1) := by decide +kernel
theorem dL_law_641 : decode cL_law 641 = .ok (.invokevirtual 73, 3) := by decide +kernel
theorem dL_law_644 : decode cL_law 644 = .ok (.aload_n 2, 1) := by decide +kernel
theorem dL_law_645 : decode cL_law 645 = .ok (.aload_n 0, 1) := by decide +kernel
theorem dL_law_646 : decode cL_law 646 = .ok (.iload_n 3, 1) := by decide +kernel
theorem dL_law_647 : decode cL_law 647 = .ok (.iconst 1, 1) := by decide +kernel
theorem dL_law_648 : decode cL_law 648 = .ok (.iadd, 1) := by decide +kernel
theorem dL_law_649 : decode cL_law 649 = .ok (.iaload, 1) := by decide +kernel
theorem dL_law_650 : decode cL_law 650 = .ok (.aload_n 0, 1) := by decide +kernel
theorem dL_law_651 : decode cL_law 651 = .ok (.iload_n 3, 1) := by decide +kernel
theorem dL_law_652 : decode cL_law 652 = .ok (.iconst 2, 1) := by decide +kernel
theorem dL_law_653 : decode cL_law 653 = .ok (.iadd, 1) := by decide +kernel
theorem dL_law_654 : decode cL_law 654 = .ok (.iaload, 1) := by decide +kernel
theorem dL_law_655 : decode cL_law 655 = .ok (.invokevirtual 76, 3) := by decide +kernel
theorem dL_law_658 : decode cL_law 658 = .ok (.if_icmp .eq 671, 3) := by decide +kernel
theorem dL_law_661 : decode cL_law 661 = .ok (.iconst 0, 1) := by decide +kernel
theorem dL_law_662 : decode cL_law 662 = .ok (.ireturn, 1) := by decide +kernel
theorem dL_law_663 : decode cL_law 663 = .ok (.aload_n 1, 1) := by decide +kernel
theorem dL_law_664 : decode cL_law 664 = .ok (.aload_n 0, 1) := by decide +kernel
theorem dL_law_665 : decode cL_law 665 = .ok (.iload_n 3, 1) := by decide +kernel
theorem dL_law_666 : decode cL_law 666 = .ok (.iconst 1, 1) := by decide +kernel
theorem dL_law_667 : decode cL_law 667 = .ok (.iadd, 1) := by decide +kernel
theorem dL_law_668 : decode cL_law 668 = .ok (.iaload, 1) := by decide +kernel
theorem dL_law_669 : decode cL_law 669 = .ok (.invokevirtual 77, 3) := by decide +kernel
theorem dL_law_672 : decode cL_law 672 = .ok (.aload_n 2, 1) := by decide +kernel
theorem dL_law_673 : decode cL_law 673 = .ok (.aload_n 0, 1) := by decide +kernel
theorem dL_law_674 : decode cL_law 674 = .ok (.iload_n 3, 1) := by decide +kernel
theorem dL_law_675 : decode cL_law 675 = .ok (.iconst 1, 1) := by decide +kernel
theorem dL_law_676 : decode cL_law 676 = .ok (.iadd, 1) := by decide +kernel
theorem dL_law_677 : decode cL_law 677 = .ok (.iaload, 1) := by decide +kernel
theorem dL_law_678 : decode cL_law 678 = .ok (.invokevirtual 80, 3) := by decide +kernel
theorem dL_law_681 : decode cL_law 681 = .ok (.if_icmp .eq 648, 3) := by decide +kernel
theorem dL_law_684 : decode cL_law 684 = .ok (.iconst 0, 1) := by decide +kernel
theorem dL_law_685 : decode cL_law 685 = .ok (.ireturn, 1) := by decide +kernel
theorem dL_law_686 : decode cL_law 686 = .ok (.aload_n 1, 1) := by decide +kernel
theorem dL_law_687 : decode cL_law 687 = .ok (.invokevirtual 81, 3) := by decide +kernel
theorem dL_law_690 : decode cL_law 690 = .ok (.aload_n 2, 1) := by decide +kernel
theorem dL_law_691 : decode cL_law 691 = .ok (.invokevirtual 84, 3) := by decide +kernel
theorem dL_law_694 : decode cL_law 694 = .ok (.if_icmp .eq 635, 3) := by decide +kernel
theorem dL_law_697 : decode cL_law 697 = .ok (.iconst 0, 1) := by decide +kernel
theorem dL_law_698 : decode cL_law 698 = .ok (.ireturn, 1) := by decide +kernel
theorem dL_law_699 : decode cL_law 699 = .ok (.aload_n 1, 1) := by decide +kernel
theorem dL_law_700 : decode cL_law 700 = .ok (.aload_n 0, 1) := by decide +kernel
theorem dL_law_701 : decode cL_law 701 = .ok (.iload_n 3, 1) := by decide +kernel
theorem dL_law_702 : decode cL_law 702 = .ok (.iconst 1, 1) := by decide +kernel
theorem dL_law_703 : decode cL_law 703 = .ok (.iadd, 1) := by decide +kernel
theorem dL_law_704 : decode cL_law 704 = .ok (.iaload, 1) := by decide +kernel
theorem dL_law_705 : decode cL_law 705 = .ok (.invokevirtual 85, 3) := by decide +kernel
theorem dL_law_708 : decode cL_law 708 = .ok (.aload_n 2, 1) := by decide +kernel
theorem dL_law_709 : decode cL_law 709 = .ok (.aload_n 0, 1) := by decide +kernel
theorem dL_law_710 : decode cL_law 710 = .ok (.iload_n 3, 1) := by decide +kernel
theorem dL_law_711 : decode cL_law 711 = .ok (.iconst 1, 1) := by decide +kernel
theorem dL_law_712 : decode cL_law 712 = .ok (.iadd, 1) := by decide +kernel
theorem dL_law_713 : decode cL_law 713 = .ok (.iaload, 1) := by decide +kernel
theorem dL_law_714 : decode cL_law 714 = .ok (.invokevirtual 88, 3) := by decide +kernel
theorem dL_law_717 : decode cL_law 717 = .ok (.if_icmp .eq 612, 3) := by decide +kernel
theorem dL_law_720 : decode cL_law 720 = .ok (.iconst 0, 1) := by decide +kernel
theorem dL_law_721 : decode cL_law 721 = .ok (.ireturn, 1) := by decide +kernel
theorem dL_law_722 : decode cL_law 722 = .ok (.aload_n 1, 1) := by decide +kernel
theorem dL_law_723 : decode cL_law 723 = .ok (.aload_n 0, 1) := by decide +kernel
theorem dL_law_724 : decode cL_law 724 = .ok (.iload_n 3, 1) := by decide +kernel
theorem dL_law_725 : decode cL_law 725 = .ok (.iconst 1, 1) := by decide +kernel
theorem dL_law_726 : decode cL_law 726 = .ok (.iadd, 1) := by decide +kernel
theorem dL_law_727 : decode cL_law 727 = .ok (.iaload, 1) := by decide +kernel
theorem dL_law_728 : decode cL_law 728 = .ok (.invokevirtual 89, 3) := by decide +kernel
theorem dL_law_731 : decode cL_law 731 = .ok (.aload_n 2, 1) := by decide +kernel
theorem dL_law_732 : decode cL_law 732 = .ok (.aload_n 0, 1) := by decide +kernel
theorem dL_law_733 : decode cL_law 733 = .ok (.iload_n 3, 1) := by decide +kernel
theorem dL_law_734 : decode cL_law 734 = .ok (.iconst 1, 1) := by decide +kernel
theorem dL_law_735 : decode cL_law 735 = .ok (.iadd, 1) := by decide +kernel
theorem dL_law_736 : decode cL_law 736 = .ok (.iaload, 1) := by decide +kernel
theorem dL_law_737 : decode cL_law 737 = .ok (.invokevirtual 92, 3) := by decide +kernel
theorem dL_law_740 : decode cL_law 740 = .ok (.if_icmp .eq 589, 3) := by decide +kernel
theorem dL_law_743 : decode cL_law 743 = .ok (.iconst 0, 1) := by decide +kernel
theorem dL_law_744 : decode cL_law 744 = .ok (.ireturn, 1) := by decide +kernel
theorem dL_law_745 : decode cL_law 745 = .ok (.aload_n 1, 1) := by decide +kernel
theorem dL_law_746 : decode cL_law 746 = .ok (.aload_n 0, 1) := by decide +kernel
theorem dL_law_747 : decode cL_law 747 = .ok (.iload_n 3, 1) := by decide +kernel
theorem dL_law_748 : decode cL_law 748 = .ok (.iconst 1, 1) := by decide +kernel
theorem dL_law_749 : decode cL_law 749 = .ok (.iadd, 1) := by decide +kernel
theorem dL_law_750 : decode cL_law 750 = .ok (.iaload, 1) := by decide +kernel
theorem dL_law_751 : decode cL_law 751 = .ok (.aload_n 0, 1) := by decide +kernel
theorem dL_law_752 : decode cL_law 752 = .ok (.iload_n 3, 1) := by decide +kernel
theorem dL_law_753 : decode cL_law 753 = .ok (.iconst 2, 1) := by decide +kernel
theorem dL_law_754 : decode cL_law 754 = .ok (.iadd, 1) := by decide +kernel
theorem dL_law_755 : decode cL_law 755 = .ok (.iaload, 1) := by decide +kernel
theorem dL_law_756 : decode cL_law 756 = .ok (.invokevirtual 93, 3) := by decide +kernel
theorem dL_law_759 : decode cL_law 759 = .ok (.aload_n 2, 1) := by decide +kernel
theorem dL_law_760 : decode cL_law 760 = .ok (.aload_n 0, 1) := by decide +kernel
theorem dL_law_761 : decode cL_law 761 = .ok (.iload_n 3, 1) := by decide +kernel
theorem dL_law_762 : decode cL_law 762 = .ok (.iconst 1, 1) := by decide +kernel
theorem dL_law_763 : decode cL_law 763 = .ok (.iadd, 1) := by decide +kernel
theorem dL_law_764 : decode cL_law 764 = .ok (.iaload, 1) := by decide +kernel
theorem dL_law_765 : decode cL_law 765 = .ok (.aload_n 0, 1) := by decide +kernel
theorem dL_law_766 : decode cL_law 766 = .ok (.iload_n 3, 1) := by decide +kernel
theorem dL_law_767 : decode cL_law 767 = .ok (.iconst 2, 1) := by decide +kernel
theorem dL_law_768 : decode cL_law 768 = .ok (.iadd, 1) := by decide +kernel
theorem dL_law_769 : decode cL_law 769 = .ok (.iaload, 1) := by decide +kernel
theorem dL_law_770 : decode cL_law 770 = .ok (.invokevirtual 96, 3) := by decide +kernel
theorem dL_law_773 : decode cL_law 773 = .ok (.if_icmp .eq 556, 3) := by decide +kernel
theorem dL_law_776 : decode cL_law 776 = .ok (.iconst 0, 1) := by decide +kernel
theorem dL_law_777 : decode cL_law 777 = .ok (.ireturn, 1) := by decide +kernel
theorem dL_law_778 : decode cL_law 778 = .ok (.aload_n 1, 1) := by decide +kernel
theorem dL_law_779 : decode cL_law 779 = .ok (.invokevirtual 97, 3) := by decide +kernel
theorem dL_law_782 : decode cL_law 782 = .ok (.aload_n 2, 1) := by decide +kernel
theorem dL_law_783 : decode cL_law 783 = .ok (.invokevirtual 100, 3) := by decide +kernel
theorem dL_law_786 : decode cL_law 786 = .ok (.if_icmp .eq 543, 3) := by decide +kernel
theorem dL_law_789 : decode cL_law 789 = .ok (.iconst 0, 1) := by decide +kernel
theorem dL_law_790 : decode cL_law 790 = .ok (.ireturn, 1) := by decide +kernel
theorem dL_law_791 : decode cL_law 791 = .ok (.aload_n 1, 1) := by decide +kernel
theorem dL_law_792 : decode cL_law 792 = .ok (.aload_n 0, 1) := by decide +kernel
theorem dL_law_793 : decode cL_law 793 = .ok (.iload_n 3, 1) := by decide +kernel
theorem dL_law_794 : decode cL_law 794 = .ok (.iconst 1, 1) := by decide +kernel
theorem dL_law_795 : decode cL_law 795 = .ok (.iadd, 1) := by decide +kernel
theorem dL_law_796 : decode cL_law 796 = .ok (.iaload, 1) := by decide +kernel
theorem dL_law_797 : decode cL_law 797 = .ok (.aload_n 0, 1) := by decide +kernel
theorem dL_law_798 : decode cL_law 798 = .ok (.iload_n 3, 1) := by decide +kernel
theorem dL_law_799 : decode cL_law 799 = .ok (.iconst 2, 1) := by decide +kernel
theorem dL_law_800 : decode cL_law 800 = .ok (.iadd, 1) := by decide +kernel
theorem dL_law_801 : decode cL_law 801 = .ok (.iaload, 1) := by decide +kernel
theorem dL_law_802 : decode cL_law 802 = .ok (.invokevirtual 101, 3) := by decide +kernel
theorem dL_law_805 : decode cL_law 805 = .ok (.aload_n 2, 1) := by decide +kernel
theorem dL_law_806 : decode cL_law 806 = .ok (.aload_n 0, 1) := by decide +kernel
theorem dL_law_807 : decode cL_law 807 = .ok (.iload_n 3, 1) := by decide +kernel
theorem dL_law_808 : decode cL_law 808 = .ok (.iconst 1, 1) := by decide +kernel
theorem dL_law_809 : decode cL_law 809 = .ok (.iadd, 1) := by decide +kernel
theorem dL_law_810 : decode cL_law 810 = .ok (.iaload, 1) := by decide +kernel
theorem dL_law_811 : decode cL_law 811 = .ok (.aload_n 0, 1) := by decide +kernel
theorem dL_law_812 : decode cL_law 812 = .ok (.iload_n 3, 1) := by decide +kernel
theorem dL_law_813 : decode cL_law 813 = .ok (.iconst 2, 1) := by decide +kernel
theorem dL_law_814 : decode cL_law 814 = .ok (.iadd, 1) := by decide +kernel
theorem dL_law_815 : decode cL_law 815 = .ok (.iaload, 1) := by decide +kernel
theorem dL_law_816 : decode cL_law 816 = .ok (.invokevirtual 104, 3) := by decide +kernel
theorem dL_law_819 : decode cL_law 819 = .ok (.if_icmp .eq 510, 3) := by decide +kernel
theorem dL_law_822 : decode cL_law 822 = .ok (.iconst 0, 1) := by decide +kernel
theorem dL_law_823 : decode cL_law 823 = .ok (.ireturn, 1) := by decide +kernel
theorem dL_law_824 : decode cL_law 824 = .ok (.aload_n 1, 1) := by decide +kernel
theorem dL_law_825 : decode cL_law 825 = .ok (.aload_n 0, 1) := by decide +kernel
theorem dL_law_826 : decode cL_law 826 = .ok (.iload_n 3, 1) := by decide +kernel
theorem dL_law_827 : decode cL_law 827 = .ok (.iconst 1, 1) := by decide +kernel
theorem dL_law_828 : decode cL_law 828 = .ok (.iadd, 1) := by decide +kernel
theorem dL_law_829 : decode cL_law 829 = .ok (.iaload, 1) := by decide +kernel
theorem dL_law_830 : decode cL_law 830 = .ok (.invokevirtual 105, 3) := by decide +kernel
theorem dL_law_833 : decode cL_law 833 = .ok (.aload_n 2, 1) := by decide +kernel
theorem dL_law_834 : decode cL_law 834 = .ok (.aload_n 0, 1) := by decide +kernel
theorem dL_law_835 : decode cL_law 835 = .ok (.iload_n 3, 1) := by decide +kernel
theorem dL_law_836 : decode cL_law 836 = .ok (.iconst 1, 1) := by decide +kernel
theorem dL_law_837 : decode cL_law 837 = .ok (.iadd, 1) := by decide +kernel
theorem dL_law_838 : decode cL_law 838 = .ok (.iaload, 1) := by decide +kernel
theorem dL_law_839 : decode cL_law 839 = .ok (.invokevirtual 108, 3) := by decide +kernel
theorem dL_law_842 : decode cL_law 842 = .ok (.if_icmp .eq 487, 3) := by decide +kernel
theorem dL_law_845 : decode cL_law 845 = .ok (.iconst 0, 1) := by decide +kernel
theorem dL_law_846 : decode cL_law 846 = .ok (.ireturn, 1) := by decide +kernel
theorem dL_law_847 : decode cL_law 847 = .ok (.aload_n 1, 1) := by decide +kernel
theorem dL_law_848 : decode cL_law 848 = .ok (.aload_n 0, 1) := by decide +kernel
theorem dL_law_849 : decode cL_law 849 = .ok (.iload_n 3, 1) := by decide +kernel
theorem dL_law_850 : decode cL_law 850 = .ok (.iconst 1, 1) := by decide +kernel
theorem dL_law_851 : decode cL_law 851 = .ok (.iadd, 1) := by decide +kernel
theorem dL_law_852 : decode cL_law 852 = .ok (.iaload, 1) := by decide +kernel
theorem dL_law_853 : decode cL_law 853 = .ok (.aload_n 0, 1) := by decide +kernel
theorem dL_law_854 : decode cL_law 854 = .ok (.iload_n 3, 1) := by decide +kernel
theorem dL_law_855 : decode cL_law 855 = .ok (.iconst 2, 1) := by decide +kernel
theorem dL_law_856 : decode cL_law 856 = .ok (.iadd, 1) := by decide +kernel
theorem dL_law_857 : decode cL_law 857 = .ok (.iaload, 1) := by decide +kernel
theorem dL_law_858 : decode cL_law 858 = .ok (.invokevirtual 109, 3) := by decide +kernel
theorem dL_law_861 : decode cL_law 861 = .ok (.aload_n 2, 1) := by decide +kernel
theorem dL_law_862 : decode cL_law 862 = .ok (.aload_n 0, 1) := by decide +kernel
theorem dL_law_863 : decode cL_law 863 = .ok (.iload_n 3, 1) := by decide +kernel
theorem dL_law_864 : decode cL_law 864 = .ok (.iconst 1, 1) := by decide +kernel
theorem dL_law_865 : decode cL_law 865 = .ok (.iadd, 1) := by decide +kernel
theorem dL_law_866 : decode cL_law 866 = .ok (.iaload, 1) := by decide +kernel
theorem dL_law_867 : decode cL_law 867 = .ok (.aload_n 0, 1) := by decide +kernel
theorem dL_law_868 : decode cL_law 868 = .ok (.iload_n 3, 1) := by decide +kernel
theorem dL_law_869 : decode cL_law 869 = .ok (.iconst 2, 1) := by decide +kernel
theorem dL_law_870 : decode cL_law 870 = .ok (.iadd, 1) := by decide +kernel
theorem dL_law_871 : decode cL_law 871 = .ok (.iaload, 1) := by decide +kernel
theorem dL_law_872 : decode cL_law 872 = .ok (.invokevirtual 112, 3) := by decide +kernel
theorem dL_law_875 : decode cL_law 875 = .ok (.if_icmp .eq 454, 3) := by decide +kernel
theorem dL_law_878 : decode cL_law 878 = .ok (.iconst 0, 1) := by decide +kernel
theorem dL_law_879 : decode cL_law 879 = .ok (.ireturn, 1) := by decide +kernel
theorem dL_law_880 : decode cL_law 880 = .ok (.aload_n 1, 1) := by decide +kernel
theorem dL_law_881 : decode cL_law 881 = .ok (.aload_n 0, 1) := by decide +kernel
theorem dL_law_882 : decode cL_law 882 = .ok (.iload_n 3, 1) := by decide +kernel
theorem dL_law_883 : decode cL_law 883 = .ok (.iconst 1, 1) := by decide +kernel
theorem dL_law_884 : decode cL_law 884 = .ok (.iadd, 1) := by decide +kernel
theorem dL_law_885 : decode cL_law 885 = .ok (.iaload, 1) := by decide +kernel
theorem dL_law_886 : decode cL_law 886 = .ok (.invokevirtual 113, 3) := by decide +kernel
theorem dL_law_889 : decode cL_law 889 = .ok (.aload_n 2, 1) := by decide +kernel
theorem dL_law_890 : decode cL_law 890 = .ok (.aload_n 0, 1) := by decide +kernel
theorem dL_law_891 : decode cL_law 891 = .ok (.iload_n 3, 1) := by decide +kernel
theorem dL_law_892 : decode cL_law 892 = .ok (.iconst 1, 1) := by decide +kernel
theorem dL_law_893 : decode cL_law 893 = .ok (.iadd, 1) := by decide +kernel
theorem dL_law_894 : decode cL_law 894 = .ok (.iaload, 1) := by decide +kernel
theorem dL_law_895 : decode cL_law 895 = .ok (.invokevirtual 116, 3) := by decide +kernel
theorem dL_law_898 : decode cL_law 898 = .ok (.if_icmp .eq 431, 3) := by decide +kernel
theorem dL_law_901 : decode cL_law 901 = .ok (.iconst 0, 1) := by decide +kernel
theorem dL_law_902 : decode cL_law 902 = .ok (.ireturn, 1) := by decide +kernel
theorem dL_law_903 : decode cL_law 903 = .ok (.aload_n 1, 1) := by decide +kernel
theorem dL_law_904 : decode cL_law 904 = .ok (.invokevirtual 117, 3) := by decide +kernel
theorem dL_law_907 : decode cL_law 907 = .ok (.aload_n 2, 1) := by decide +kernel
theorem dL_law_908 : decode cL_law 908 = .ok (.invokevirtual 120, 3) := by decide +kernel
theorem dL_law_911 : decode cL_law 911 = .ok (.if_icmp .eq 418, 3) := by decide +kernel
theorem dL_law_914 : decode cL_law 914 = .ok (.iconst 0, 1) := by decide +kernel
theorem dL_law_915 : decode cL_law 915 = .ok (.ireturn, 1) := by decide +kernel
theorem dL_law_916 : decode cL_law 916 = .ok (.aload_n 1, 1) := by decide +kernel
theorem dL_law_917 : decode cL_law 917 = .ok (.aload_n 0, 1) := by decide +kernel
theorem dL_law_918 : decode cL_law 918 = .ok (.iload_n 3, 1) := by decide +kernel
theorem dL_law_919 : decode cL_law 919 = .ok (.iconst 1, 1) := by decide +kernel
theorem dL_law_920 : decode cL_law 920 = .ok (.iadd, 1) := by decide +kernel
theorem dL_law_921 : decode cL_law 921 = .ok (.iaload, 1) := by decide +kernel
theorem dL_law_922 : decode cL_law 922 = .ok (.aload_n 0, 1) := by decide +kernel
theorem dL_law_923 : decode cL_law 923 = .ok (.iload_n 3, 1) := by decide +kernel
theorem dL_law_924 : decode cL_law 924 = .ok (.iconst 2, 1) := by decide +kernel
theorem dL_law_925 : decode cL_law 925 = .ok (.iadd, 1) := by decide +kernel
theorem dL_law_926 : decode cL_law 926 = .ok (.iaload, 1) := by decide +kernel
theorem dL_law_927 : decode cL_law 927 = .ok (.invokevirtual 121, 3) := by decide +kernel
theorem dL_law_930 : decode cL_law 930 = .ok (.aload_n 2, 1) := by decide +kernel
theorem dL_law_931 : decode cL_law 931 = .ok (.aload_n 0, 1) := by decide +kernel
theorem dL_law_932 : decode cL_law 932 = .ok (.iload_n 3, 1) := by decide +kernel
theorem dL_law_933 : decode cL_law 933 = .ok (.iconst 1, 1) := by decide +kernel
theorem dL_law_934 : decode cL_law 934 = .ok (.iadd, 1) := by decide +kernel
theorem dL_law_935 : decode cL_law 935 = .ok (.iaload, 1) := by decide +kernel
theorem dL_law_936 : decode cL_law 936 = .ok (.aload_n 0, 1) := by decide +kernel
theorem dL_law_937 : decode cL_law 937 = .ok (.iload_n 3, 1) := by decide +kernel
theorem dL_law_938 : decode cL_law 938 = .ok (.iconst 2, 1) := by decide +kernel
theorem dL_law_939 : decode cL_law 939 = .ok (.iadd, 1) := by decide +kernel
theorem dL_law_940 : decode cL_law 940 = .ok (.iaload, 1) := by decide +kernel
theorem dL_law_941 : decode cL_law 941 = .ok (.invokevirtual 124, 3) := by decide +kernel
theorem dL_law_944 : decode cL_law 944 = .ok (.if_icmp .eq 385, 3) := by decide +kernel
theorem dL_law_947 : decode cL_law 947 = .ok (.iconst 0, 1) := by decide +kernel
theorem dL_law_948 : decode cL_law 948 = .ok (.ireturn, 1) := by decide +kernel
theorem dL_law_949 : decode cL_law 949 = .ok (.aload_n 1, 1) := by decide +kernel
theorem dL_law_950 : decode cL_law 950 = .ok (.invokevirtual 125, 3) := by decide +kernel
theorem dL_law_953 : decode cL_law 953 = .ok (.aload_n 2, 1) := by decide +kernel
theorem dL_law_954 : decode cL_law 954 = .ok (.invokevirtual 128, 3) := by decide +kernel
theorem dL_law_957 : decode cL_law 957 = .ok (.if_icmp .eq 372, 3) := by decide +kernel
theorem dL_law_960 : decode cL_law 960 = .ok (.iconst 0, 1) := by decide +kernel
theorem dL_law_961 : decode cL_law 961 = .ok (.ireturn, 1) := by decide +kernel
theorem dL_law_962 : decode cL_law 962 = .ok (.aload_n 1, 1) := by decide +kernel
theorem dL_law_963 : decode cL_law 963 = .ok (.invokevirtual 129, 3) := by decide +kernel
theorem dL_law_966 : decode cL_law 966 = .ok (.aload_n 2, 1) := by decide +kernel
theorem dL_law_967 : decode cL_law 967 = .ok (.invokevirtual 132, 3) := by decide +kernel
theorem dL_law_970 : decode cL_law 970 = .ok (.if_icmp .eq 359, 3) := by decide +kernel
theorem dL_law_973 : decode cL_law 973 = .ok (.iconst 0, 1) := by decide +kernel
theorem dL_law_974 : decode cL_law 974 = .ok (.ireturn, 1) := by decide +kernel
theorem dL_law_975 : decode cL_law 975 = .ok (.aload_n 1, 1) := by decide +kernel
theorem dL_law_976 : decode cL_law 976 = .ok (.aload_n 0, 1) := by decide +kernel
theorem dL_law_977 : decode cL_law 977 = .ok (.iload_n 3, 1) := by decide +kernel
theorem dL_law_978 : decode cL_law 978 = .ok (.iconst 1, 1) := by decide +kernel
theorem dL_law_979 : decode cL_law 979 = .ok (.iadd, 1) := by decide +kernel
theorem dL_law_980 : decode cL_law 980 = .ok (.iaload, 1) := by decide +kernel
theorem dL_law_981 : decode cL_law 981 = .ok (.aload_n 0, 1) := by decide +kernel
theorem dL_law_982 : decode cL_law 982 = .ok (.iload_n 3, 1) := by decide +kernel
theorem dL_law_983 : decode cL_law 983 = .ok (.iconst 2, 1) := by decide +kernel
theorem dL_law_984 : decode cL_law 984 = .ok (.iadd, 1) := by decide +kernel
theorem dL_law_985 : decode cL_law 985 = .ok (.iaload, 1) := by decide +kernel
theorem dL_law_986 : decode cL_law 986 = .ok (.aload_n 0, 1) := by decide +kernel
theorem dL_law_987 : decode cL_law 987 = .ok (.iload_n 3, 1) := by decide +kernel
theorem dL_law_988 : decode cL_law 988 = .ok (.iconst 3, 1) := by decide +kernel
theorem dL_law_989 : decode cL_law 989 = .ok (.iadd, 1) := by decide +kernel
theorem dL_law_990 : decode cL_law 990 = .ok (.iaload, 1) := by decide +kernel
theorem dL_law_991 : decode cL_law 991 = .ok (.invokevirtual 133, 3) := by decide +kernel
theorem dL_law_994 : decode cL_law 994 = .ok (.aload_n 2, 1) := by decide +kernel
theorem dL_law_995 : decode cL_law 995 = .ok (.aload_n 0, 1) := by decide +kernel
theorem dL_law_996 : decode cL_law 996 = .ok (.iload_n 3, 1) := by decide +kernel
theorem dL_law_997 : decode cL_law 997 = .ok (.iconst 1, 1) := by decide +kernel
theorem dL_law_998 : decode cL_law 998 = .ok (.iadd, 1) := by decide +kernel
theorem dL_law_999 : decode cL_law 999 = .ok (.iaload, 1) := by decide +kernel
theorem dL_law_1000 : decode cL_law 1000 = .ok (.aload_n 0, 1) := by decide +kernel
theorem dL_law_1001 : decode cL_law 1001 = .ok (.iload_n 3, 1) := by decide +kernel
theorem dL_law_1002 : decode cL_law 1002 = .ok (.iconst 2, 1) := by decide +kernel
theorem dL_law_1003 : decode cL_law 1003 = .ok (.iadd, 1) := by decide +kernel
theorem dL_law_1004 : decode cL_law 1004 = .ok (.iaload, 1) := by decide +kernel
theorem dL_law_1005 : decode cL_law 1005 = .ok (.aload_n 0, 1) := by decide +kernel
theorem dL_law_1006 : decode cL_law 1006 = .ok (.iload_n 3, 1) := by decide +kernel
theorem dL_law_1007 : decode cL_law 1007 = .ok (.iconst 3, 1) := by decide +kernel
theorem dL_law_1008 : decode cL_law 1008 = .ok (.iadd, 1) := by decide +kernel
theorem dL_law_1009 : decode cL_law 1009 = .ok (.iaload, 1) := by decide +kernel
theorem dL_law_1010 : decode cL_law 1010 = .ok (.invokevirtual 136, 3) := by decide +kernel
theorem dL_law_1013 : decode cL_law 1013 = .ok (.if_icmp .eq 316, 3) := by decide +kernel
theorem dL_law_1016 : decode cL_law 1016 = .ok (.iconst 0, 1) := by decide +kernel
theorem dL_law_1017 : decode cL_law 1017 = .ok (.ireturn, 1) := by decide +kernel
theorem dL_law_1018 : decode cL_law 1018 = .ok (.aload_n 1, 1) := by decide +kernel
theorem dL_law_1019 : decode cL_law 1019 = .ok (.aload_n 0, 1) := by decide +kernel
theorem dL_law_1020 : decode cL_law 1020 = .ok (.iload_n 3, 1) := by decide +kernel
theorem dL_law_1021 : decode cL_law 1021 = .ok (.iconst 1, 1) := by decide +kernel
theorem dL_law_1022 : decode cL_law 1022 = .ok (.iadd, 1) := by decide +kernel
theorem dL_law_1023 : decode cL_law 1023 = .ok (.iaload, 1) := by decide +kernel
theorem dL_law_1024 : decode cL_law 1024 = .ok (.aload_n 0, 1) := by decide +kernel
theorem dL_law_1025 : decode cL_law 1025 = .ok (.iload_n 3, 1) := by decide +kernel
theorem dL_law_1026 : decode cL_law 1026 = .ok (.iconst 2, 1) := by decide +kernel
theorem dL_law_1027 : decode cL_law 1027 = .ok (.iadd, 1) := by decide +kernel
theorem dL_law_1028 : decode cL_law 1028 = .ok (.iaload, 1) := by decide +kernel
theorem dL_law_1029 : decode cL_law 1029 = .ok (.aload_n 0, 1) := by decide +kernel
theorem dL_law_1030 : decode cL_law 1030 = .ok (.iload_n 3, 1) := by decide +kernel
theorem dL_law_1031 : decode cL_law 1031 = .ok (.iconst 3, 1) := by decide +kernel
theorem dL_law_1032 : decode cL_law 1032 = .ok (.iadd, 1) := by decide +kernel
theorem dL_law_1033 : decode cL_law 1033 = .ok (.iaload, 1) := by decide +kernel
theorem dL_law_1034 : decode cL_law 1034 = .ok (.i2l, 1) := by decide +kernel
theorem dL_law_1035 : decode cL_law 1035 = .ok (.bipush 32, 2) := by decide +kernel
theorem dL_law_1037 : decode cL_law 1037 = .ok (.lshl, 1) := by decide +kernel
theorem dL_law_1038 : decode cL_law 1038 = .ok (.aload_n 0, 1) := by decide +kernel
theorem dL_law_1039 : decode cL_law 1039 = .ok (.iload_n 3, 1) := by decide +kernel
theorem dL_law_1040 : decode cL_law 1040 = .ok (.iconst 4, 1) := by decide +kernel
theorem dL_law_1041 : decode cL_law 1041 = .ok (.iadd, 1) := by decide +kernel
theorem dL_law_1042 : decode cL_law 1042 = .ok (.iaload, 1) := by decide +kernel
theorem dL_law_1043 : decode cL_law 1043 = .ok (.i2l, 1) := by decide +kernel
theorem dL_law_1044 : decode cL_law 1044 = .ok (.ldc2_w 137, 3) := by decide +kernel
theorem dL_law_1047 : decode cL_law 1047 = .ok (.land, 1) := by decide +kernel
theorem dL_law_1048 : decode cL_law 1048 = .ok (.lor, 1) := by decide +kernel
theorem dL_law_1049 : decode cL_law 1049 = .ok (.invokevirtual 139, 3) := by decide +kernel
theorem dL_law_1052 : decode cL_law 1052 = .ok (.aload_n 2, 1) := by decide +kernel
theorem dL_law_1053 : decode cL_law 1053 = .ok (.aload_n 0, 1) := by decide +kernel
theorem dL_law_1054 : decode cL_law 1054 = .ok (.iload_n 3, 1) := by decide +kernel
theorem dL_law_1055 : decode cL_law 1055 = .ok (.iconst 1, 1) := by decide +kernel
theorem dL_law_1056 : decode cL_law 1056 = .ok (.iadd, 1) := by decide +kernel
theorem dL_law_1057 : decode cL_law 1057 = .ok (.iaload, 1) := by decide +kernel
theorem dL_law_1058 : decode cL_law 1058 = .ok (.aload_n 0, 1) := by decide +kernel
theorem dL_law_1059 : decode cL_law 1059 = .ok (.iload_n 3, 1) := by decide +kernel
theorem dL_law_1060 : decode cL_law 1060 = .ok (.iconst 2, 1) := by decide +kernel
theorem dL_law_1061 : decode cL_law 1061 = .ok (.iadd, 1) := by decide +kernel
theorem dL_law_1062 : decode cL_law 1062 = .ok (.iaload, 1) := by decide +kernel
theorem dL_law_1063 : decode cL_law 1063 = .ok (.aload_n 0, 1) := by decide +kernel
theorem dL_law_1064 : decode cL_law 1064 = .ok (.iload_n 3, 1) := by decide +kernel
theorem dL_law_1065 : decode cL_law 1065 = .ok (.iconst 3, 1) := by decide +kernel
theorem dL_law_1066 : decode cL_law 1066 = .ok (.iadd, 1) := by decide +kernel
theorem dL_law_1067 : decode cL_law 1067 = .ok (.iaload, 1) := by decide +kernel
theorem dL_law_1068 : decode cL_law 1068 = .ok (.i2l, 1) := by decide +kernel
theorem dL_law_1069 : decode cL_law 1069 = .ok (.bipush 32, 2) := by decide +kernel
theorem dL_law_1071 : decode cL_law 1071 = .ok (.lshl, 1) := by decide +kernel
theorem dL_law_1072 : decode cL_law 1072 = .ok (.aload_n 0, 1) := by decide +kernel
theorem dL_law_1073 : decode cL_law 1073 = .ok (.iload_n 3, 1) := by decide +kernel
theorem dL_law_1074 : decode cL_law 1074 = .ok (.iconst 4, 1) := by decide +kernel
theorem dL_law_1075 : decode cL_law 1075 = .ok (.iadd, 1) := by decide +kernel
theorem dL_law_1076 : decode cL_law 1076 = .ok (.iaload, 1) := by decide +kernel
theorem dL_law_1077 : decode cL_law 1077 = .ok (.i2l, 1) := by decide +kernel
theorem dL_law_1078 : decode cL_law 1078 = .ok (.ldc2_w 137, 3) := by decide +kernel
theorem dL_law_1081 : decode cL_law 1081 = .ok (.land, 1) := by decide +kernel
theorem dL_law_1082 : decode cL_law 1082 = .ok (.lor, 1) := by decide +kernel
theorem dL_law_1083 : decode cL_law 1083 = .ok (.invokevirtual 143, 3) := by decide +kernel
theorem dL_law_1086 : decode cL_law 1086 = .ok (.lcmp, 1) := by decide +kernel
theorem dL_law_1087 : decode cL_law 1087 = .ok (.ifCond .eq 242, 3) := by decide +kernel
theorem dL_law_1090 : decode cL_law 1090 = .ok (.iconst 0, 1) := by decide +kernel
theorem dL_law_1091 : decode cL_law 1091 = .ok (.ireturn, 1) := by decide +kernel
theorem dL_law_1092 : decode cL_law 1092 = .ok (.aload_n 1, 1) := by decide +kernel
theorem dL_law_1093 : decode cL_law 1093 = .ok (.aload_n 0, 1) := by decide +kernel
theorem dL_law_1094 : decode cL_law 1094 = .ok (.iload_n 3, 1) := by decide +kernel
theorem dL_law_1095 : decode cL_law 1095 = .ok (.iconst 1, 1) := by decide +kernel
theorem dL_law_1096 : decode cL_law 1096 = .ok (.iadd, 1) := by decide +kernel
theorem dL_law_1097 : decode cL_law 1097 = .ok (.iaload, 1) := by decide +kernel
theorem dL_law_1098 : decode cL_law 1098 = .ok (.aload_n 0, 1) := by decide +kernel
theorem dL_law_1099 : decode cL_law 1099 = .ok (.iload_n 3, 1) := by decide +kernel
theorem dL_law_1100 : decode cL_law 1100 = .ok (.iconst 2, 1) := by decide +kernel
theorem dL_law_1101 : decode cL_law 1101 = .ok (.iadd, 1) := by decide +kernel
theorem dL_law_1102 : decode cL_law 1102 = .ok (.iaload, 1) := by decide +kernel
theorem dL_law_1103 : decode cL_law 1103 = .ok (.aload_n 0, 1) := by decide +kernel
theorem dL_law_1104 : decode cL_law 1104 = .ok (.iload_n 3, 1) := by decide +kernel
theorem dL_law_1105 : decode cL_law 1105 = .ok (.iconst 3, 1) := by decide +kernel
theorem dL_law_1106 : decode cL_law 1106 = .ok (.iadd, 1) := by decide +kernel
theorem dL_law_1107 : decode cL_law 1107 = .ok (.iaload, 1) := by decide +kernel
theorem dL_law_1108 : decode cL_law 1108 = .ok (.aload_n 0, 1) := by decide +kernel
theorem dL_law_1109 : decode cL_law 1109 = .ok (.iload_n 3, 1) := by decide +kernel
theorem dL_law_1110 : decode cL_law 1110 = .ok (.iconst 4, 1) := by decide +kernel
theorem dL_law_1111 : decode cL_law 1111 = .ok (.iadd, 1) := by decide +kernel
theorem dL_law_1112 : decode cL_law 1112 = .ok (.iaload, 1) := by decide +kernel
theorem dL_law_1113 : decode cL_law 1113 = .ok (.aload_n 0, 1) := by decide +kernel
theorem dL_law_1114 : decode cL_law 1114 = .ok (.iload_n 3, 1) := by decide +kernel
theorem dL_law_1115 : decode cL_law 1115 = .ok (.iconst 5, 1) := by decide +kernel
theorem dL_law_1116 : decode cL_law 1116 = .ok (.iadd, 1) := by decide +kernel
theorem dL_law_1117 : decode cL_law 1117 = .ok (.iaload, 1) := by decide +kernel
theorem dL_law_1118 : decode cL_law 1118 = .ok (.invokevirtual 144, 3) := by decide +kernel
theorem dL_law_1121 : decode cL_law 1121 = .ok (.aload_n 2, 1) := by decide +kernel
theorem dL_law_1122 : decode cL_law 1122 = .ok (.aload_n 0, 1) := by decide +kernel
theorem dL_law_1123 : decode cL_law 1123 = .ok (.iload_n 3, 1) := by decide +kernel
theorem dL_law_1124 : decode cL_law 1124 = .ok (.iconst 1, 1) := by decide +kernel
theorem dL_law_1125 : decode cL_law 1125 = .ok (.iadd, 1) := by decide +kernel
theorem dL_law_1126 : decode cL_law 1126 = .ok (.iaload, 1) := by decide +kernel
theorem dL_law_1127 : decode cL_law 1127 = .ok (.aload_n 0, 1) := by decide +kernel
theorem dL_law_1128 : decode cL_law 1128 = .ok (.iload_n 3, 1) := by decide +kernel
theorem dL_law_1129 : decode cL_law 1129 = .ok (.iconst 2, 1) := by decide +kernel
theorem dL_law_1130 : decode cL_law 1130 = .ok (.iadd, 1) := by decide +kernel
theorem dL_law_1131 : decode cL_law 1131 = .ok (.iaload, 1) := by decide +kernel
theorem dL_law_1132 : decode cL_law 1132 = .ok (.aload_n 0, 1) := by decide +kernel
theorem dL_law_1133 : decode cL_law 1133 = .ok (.iload_n 3, 1) := by decide +kernel
theorem dL_law_1134 : decode cL_law 1134 = .ok (.iconst 3, 1) := by decide +kernel
theorem dL_law_1135 : decode cL_law 1135 = .ok (.iadd, 1) := by decide +kernel
theorem dL_law_1136 : decode cL_law 1136 = .ok (.iaload, 1) := by decide +kernel
theorem dL_law_1137 : decode cL_law 1137 = .ok (.aload_n 0, 1) := by decide +kernel
theorem dL_law_1138 : decode cL_law 1138 = .ok (.iload_n 3, 1) := by decide +kernel
theorem dL_law_1139 : decode cL_law 1139 = .ok (.iconst 4, 1) := by decide +kernel
theorem dL_law_1140 : decode cL_law 1140 = .ok (.iadd, 1) := by decide +kernel
theorem dL_law_1141 : decode cL_law 1141 = .ok (.iaload, 1) := by decide +kernel
theorem dL_law_1142 : decode cL_law 1142 = .ok (.aload_n 0, 1) := by decide +kernel
theorem dL_law_1143 : decode cL_law 1143 = .ok (.iload_n 3, 1) := by decide +kernel
theorem dL_law_1144 : decode cL_law 1144 = .ok (.iconst 5, 1) := by decide +kernel
theorem dL_law_1145 : decode cL_law 1145 = .ok (.iadd, 1) := by decide +kernel
theorem dL_law_1146 : decode cL_law 1146 = .ok (.iaload, 1) := by decide +kernel
theorem dL_law_1147 : decode cL_law 1147 = .ok (.invokevirtual 148, 3) := by decide +kernel
theorem dL_law_1150 : decode cL_law 1150 = .ok (.if_icmp .eq 179, 3) := by decide +kernel
theorem dL_law_1153 : decode cL_law 1153 = .ok (.iconst 0, 1) := by decide +kernel
theorem dL_law_1154 : decode cL_law 1154 = .ok (.ireturn, 1) := by decide +kernel
theorem dL_law_1155 : decode cL_law 1155 = .ok (.aload_n 1, 1) := by decide +kernel
theorem dL_law_1156 : decode cL_law 1156 = .ok (.aload_n 0, 1) := by decide +kernel
theorem dL_law_1157 : decode cL_law 1157 = .ok (.iload_n 3, 1) := by decide +kernel
theorem dL_law_1158 : decode cL_law 1158 = .ok (.iconst 1, 1) := by decide +kernel
theorem dL_law_1159 : decode cL_law 1159 = .ok (.iadd, 1) := by decide +kernel
theorem dL_law_1160 : decode cL_law 1160 = .ok (.iaload, 1) := by decide +kernel
theorem dL_law_1161 : decode cL_law 1161 = .ok (.invokevirtual 149, 3) := by decide +kernel
theorem dL_law_1164 : decode cL_law 1164 = .ok (.aload_n 2, 1) := by decide +kernel
theorem dL_law_1165 : decode cL_law 1165 = .ok (.aload_n 0, 1) := by decide +kernel
theorem dL_law_1166 : decode cL_law 1166 = .ok (.iload_n 3, 1) := by decide +kernel
theorem dL_law_1167 : decode cL_law 1167 = .ok (.iconst 1, 1) := by decide +kernel
theorem dL_law_1168 : decode cL_law 1168 = .ok (.iadd, 1) := by decide +kernel
theorem dL_law_1169 : decode cL_law 1169 = .ok (.iaload, 1) := by decide +kernel
theorem dL_law_1170 : decode cL_law 1170 = .ok (.invokevirtual 152, 3) := by decide +kernel
theorem dL_law_1173 : decode cL_law 1173 = .ok (.if_icmp .eq 156, 3) := by decide +kernel
theorem dL_law_1176 : decode cL_law 1176 = .ok (.iconst 0, 1) := by decide +kernel
theorem dL_law_1177 : decode cL_law 1177 = .ok (.ireturn, 1) := by decide +kernel
theorem dL_law_1178 : decode cL_law 1178 = .ok (.aload_n 1, 1) := by decide +kernel
theorem dL_law_1179 : decode cL_law 1179 = .ok (.aload_n 0, 1) := by decide +kernel
theorem dL_law_1180 : decode cL_law 1180 = .ok (.iload_n 3, 1) := by decide +kernel
theorem dL_law_1181 : decode cL_law 1181 = .ok (.iconst 1, 1) := by decide +kernel
theorem dL_law_1182 : decode cL_law 1182 = .ok (.iadd, 1) := by decide +kernel
theorem dL_law_1183 : decode cL_law 1183 = .ok (.iaload, 1) := by decide +kernel
theorem dL_law_1184 : decode cL_law 1184 = .ok (.aload_n 0, 1) := by decide +kernel
theorem dL_law_1185 : decode cL_law 1185 = .ok (.iload_n 3, 1) := by decide +kernel
theorem dL_law_1186 : decode cL_law 1186 = .ok (.iconst 2, 1) := by decide +kernel
theorem dL_law_1187 : decode cL_law 1187 = .ok (.iadd, 1) := by decide +kernel
theorem dL_law_1188 : decode cL_law 1188 = .ok (.iaload, 1) := by decide +kernel
theorem dL_law_1189 : decode cL_law 1189 = .ok (.invokevirtual 153, 3) := by decide +kernel
theorem dL_law_1192 : decode cL_law 1192 = .ok (.aload_n 2, 1) := by decide +kernel
theorem dL_law_1193 : decode cL_law 1193 = .ok (.aload_n 0, 1) := by decide +kernel
theorem dL_law_1194 : decode cL_law 1194 = .ok (.iload_n 3, 1) := by decide +kernel
theorem dL_law_1195 : decode cL_law 1195 = .ok (.iconst 1, 1) := by decide +kernel
theorem dL_law_1196 : decode cL_law 1196 = .ok (.iadd, 1) := by decide +kernel
theorem dL_law_1197 : decode cL_law 1197 = .ok (.iaload, 1) := by decide +kernel
theorem dL_law_1198 : decode cL_law 1198 = .ok (.aload_n 0, 1) := by decide +kernel
theorem dL_law_1199 : decode cL_law 1199 = .ok (.iload_n 3, 1) := by decide +kernel
theorem dL_law_1200 : decode cL_law 1200 = .ok (.iconst 2, 1) := by decide +kernel
theorem dL_law_1201 : decode cL_law 1201 = .ok (.iadd, 1) := by decide +kernel
theorem dL_law_1202 : decode cL_law 1202 = .ok (.iaload, 1) := by decide +kernel
theorem dL_law_1203 : decode cL_law 1203 = .ok (.invokevirtual 156, 3) := by decide +kernel
theorem dL_law_1206 : decode cL_law 1206 = .ok (.if_icmp .eq 123, 3) := by decide +kernel
theorem dL_law_1209 : decode cL_law 1209 = .ok (.iconst 0, 1) := by decide +kernel
theorem dL_law_1210 : decode cL_law 1210 = .ok (.ireturn, 1) := by decide +kernel
theorem dL_law_1211 : decode cL_law 1211 = .ok (.aload_n 1, 1) := by decide +kernel
theorem dL_law_1212 : decode cL_law 1212 = .ok (.aload_n 0, 1) := by decide +kernel
theorem dL_law_1213 : decode cL_law 1213 = .ok (.iload_n 3, 1) := by decide +kernel
theorem dL_law_1214 : decode cL_law 1214 = .ok (.iconst 1, 1) := by decide +kernel
theorem dL_law_1215 : decode cL_law 1215 = .ok (.iadd, 1) := by decide +kernel
theorem dL_law_1216 : decode cL_law 1216 = .ok (.iaload, 1) := by decide +kernel
theorem dL_law_1217 : decode cL_law 1217 = .ok (.aload_n 0, 1) := by decide +kernel
theorem dL_law_1218 : decode cL_law 1218 = .ok (.iload_n 3, 1) := by decide +kernel
theorem dL_law_1219 : decode cL_law 1219 = .ok (.iconst 2, 1) := by decide +kernel
theorem dL_law_1220 : decode cL_law 1220 = .ok (.iadd, 1) := by decide +kernel
theorem dL_law_1221 : decode cL_law 1221 = .ok (.iaload, 1) := by decide +kernel
theorem dL_law_1222 : decode cL_law 1222 = .ok (.invokevirtual 157, 3) := by decide +kernel
theorem dL_law_1225 : decode cL_law 1225 = .ok (.aload_n 2, 1) := by decide +kernel
theorem dL_law_1226 : decode cL_law 1226 = .ok (.aload_n 0, 1) := by decide +kernel
theorem dL_law_1227 : decode cL_law 1227 = .ok (.iload_n 3, 1) := by decide +kernel
theorem dL_law_1228 : decode cL_law 1228 = .ok (.iconst 1, 1) := by decide +kernel
theorem dL_law_1229 : decode cL_law 1229 = .ok (.iadd, 1) := by decide +kernel
theorem dL_law_1230 : decode cL_law 1230 = .ok (.iaload, 1) := by decide +kernel
theorem dL_law_1231 : decode cL_law 1231 = .ok (.aload_n 0, 1) := by decide +kernel
theorem dL_law_1232 : decode cL_law 1232 = .ok (.iload_n 3, 1) := by decide +kernel
theorem dL_law_1233 : decode cL_law 1233 = .ok (.iconst 2, 1) := by decide +kernel
theorem dL_law_1234 : decode cL_law 1234 = .ok (.iadd, 1) := by decide +kernel
theorem dL_law_1235 : decode cL_law 1235 = .ok (.iaload, 1) := by decide +kernel
theorem dL_law_1236 : decode cL_law 1236 = .ok (.invokevirtual 160, 3) := by decide +kernel
theorem dL_law_1239 : decode cL_law 1239 = .ok (.if_icmp .eq 90, 3) := by decide +kernel
theorem dL_law_1242 : decode cL_law 1242 = .ok (.iconst 0, 1) := by decide +kernel
theorem dL_law_1243 : decode cL_law 1243 = .ok (.ireturn, 1) := by decide +kernel
theorem dL_law_1244 : decode cL_law 1244 = .ok (.aload_n 1, 1) := by decide +kernel
theorem dL_law_1245 : decode cL_law 1245 = .ok (.invokevirtual 161, 3) := by decide +kernel
theorem dL_law_1248 : decode cL_law 1248 = .ok (.aload_n 2, 1) := by decide +kernel
theorem dL_law_1249 : decode cL_law 1249 = .ok (.invokevirtual 164, 3) := by decide +kernel
theorem dL_law_1252 : decode cL_law 1252 = .ok (.if_icmp .eq 77, 3) := by decide +kernel
theorem dL_law_1255 : decode cL_law 1255 = .ok (.iconst 0, 1) := by decide +kernel
theorem dL_law_1256 : decode cL_law 1256 = .ok (.ireturn, 1) := by decide +kernel
theorem dL_law_1257 : decode cL_law 1257 = .ok (.aload_n 1, 1) := by decide +kernel
theorem dL_law_1258 : decode cL_law 1258 = .ok (.invokevirtual 165, 3) := by decide +kernel
theorem dL_law_1261 : decode cL_law 1261 = .ok (.aload_n 2, 1) := by decide +kernel
theorem dL_law_1262 : decode cL_law 1262 = .ok (.invokevirtual 168, 3) := by decide +kernel
theorem dL_law_1265 : decode cL_law 1265 = .ok (.if_icmp .eq 64, 3) := by decide +kernel
theorem dL_law_1268 : decode cL_law 1268 = .ok (.iconst 0, 1) := by decide +kernel
theorem dL_law_1269 : decode cL_law 1269 = .ok (.ireturn, 1) := by decide +kernel
theorem dL_law_1270 : decode cL_law 1270 = .ok (.aload_n 1, 1) := by decide +kernel
theorem dL_law_1271 : decode cL_law 1271 = .ok (.invokevirtual 169, 3) := by decide +kernel
theorem dL_law_1274 : decode cL_law 1274 = .ok (.aload_n 2, 1) := by decide +kernel
theorem dL_law_1275 : decode cL_law 1275 = .ok (.invokevirtual 172, 3) := by decide +kernel
theorem dL_law_1278 : decode cL_law 1278 = .ok (.if_icmp .eq 51, 3) := by decide +kernel
theorem dL_law_1281 : decode cL_law 1281 = .ok (.iconst 0, 1) := by decide +kernel
theorem dL_law_1282 : decode cL_law 1282 = .ok (.ireturn, 1) := by decide +kernel
theorem dL_law_1283 : decode cL_law 1283 = .ok (.aload_n 1, 1) := by decide +kernel
theorem dL_law_1284 : decode cL_law 1284 = .ok (.aload_n 0, 1) := by decide +kernel
theorem dL_law_1285 : decode cL_law 1285 = .ok (.iload_n 3, 1) := by decide +kernel
theorem dL_law_1286 : decode cL_law 1286 = .ok (.iconst 1, 1) := by decide +kernel
theorem dL_law_1287 : decode cL_law 1287 = .ok (.iadd, 1) := by decide +kernel
theorem dL_law_1288 : decode cL_law 1288 = .ok (.iaload, 1) := by decide +kernel
theorem dL_law_1289 : decode cL_law 1289 = .ok (.invokevirtual 173, 3) := by decide +kernel
theorem dL_law_1292 : decode cL_law 1292 = .ok (.aload_n 2, 1) := by decide +kernel
theorem dL_law_1293 : decode cL_law 1293 = .ok (.aload_n 0, 1) := by decide +kernel
theorem dL_law_1294 : decode cL_law 1294 = .ok (.iload_n 3, 1) := by decide +kernel
theorem dL_law_1295 : decode cL_law 1295 = .ok (.iconst 1, 1) := by decide +kernel
theorem dL_law_1296 : decode cL_law 1296 = .ok (.iadd, 1) := by decide +kernel
theorem dL_law_1297 : decode cL_law 1297 = .ok (.iaload, 1) := by decide +kernel
theorem dL_law_1298 : decode cL_law 1298 = .ok (.invokevirtual 176, 3) := by decide +kernel
theorem dL_law_1301 : decode cL_law 1301 = .ok (.if_icmp .eq 28, 3) := by decide +kernel
theorem dL_law_1304 : decode cL_law 1304 = .ok (.iconst 0, 1) := by decide +kernel
theorem dL_law_1305 : decode cL_law 1305 = .ok (.ireturn, 1) := by decide +kernel
theorem dL_law_1306 : decode cL_law 1306 = .ok (.aload_n 1, 1) := by decide +kernel
theorem dL_law_1307 : decode cL_law 1307 = .ok (.aload_n 0, 1) := by decide +kernel
theorem dL_law_1308 : decode cL_law 1308 = .ok (.iload_n 3, 1) := by decide +kernel
theorem dL_law_1309 : decode cL_law 1309 = .ok (.iconst 1, 1) := by decide +kernel
theorem dL_law_1310 : decode cL_law 1310 = .ok (.iadd, 1) := by decide +kernel
theorem dL_law_1311 : decode cL_law 1311 = .ok (.iaload, 1) := by decide +kernel
theorem dL_law_1312 : decode cL_law 1312 = .ok (.invokevirtual 177, 3) := by decide +kernel
theorem dL_law_1315 : decode cL_law 1315 = .ok (.aload_n 2, 1) := by decide +kernel
theorem dL_law_1316 : decode cL_law 1316 = .ok (.aload_n 0, 1) := by decide +kernel
theorem dL_law_1317 : decode cL_law 1317 = .ok (.iload_n 3, 1) := by decide +kernel
theorem dL_law_1318 : decode cL_law 1318 = .ok (.iconst 1, 1) := by decide +kernel
theorem dL_law_1319 : decode cL_law 1319 = .ok (.iadd, 1) := by decide +kernel
theorem dL_law_1320 : decode cL_law 1320 = .ok (.iaload, 1) := by decide +kernel
theorem dL_law_1321 : decode cL_law 1321 = .ok (.invokevirtual 180, 3) := by decide +kernel
theorem dL_law_1324 : decode cL_law 1324 = .ok (.if_icmp .eq 5, 3) := by decide +kernel
theorem dL_law_1327 : decode cL_law 1327 = .ok (.iconst 0, 1) := by decide +kernel
theorem dL_law_1328 : decode cL_law 1328 = .ok (.ireturn, 1) := by decide +kernel
theorem dL_law_1329 : decode cL_law 1329 = .ok (.iinc 3 6, 3) := by decide +kernel
theorem dL_law_1332 : decode cL_law 1332 = .ok (.goto (-1314), 3) := by decide +kernel
theorem dL_law_1335 : decode cL_law 1335 = .ok (.iconst 1, 1) := by decide +kernel
theorem dL_law_1336 : decode cL_law 1336 = .ok (.ireturn, 1) := by decide +kernel
