theorem dTA_goesAhead_0 : decode prog_7_method_5_code 0 = .ok (.aload_n 0, 1) := by decide +kernel
theorem dTA_goesAhead_1 : decode prog_7_method_5_code 1 = .ok (.getfield 26, 3) := by decide +kernel
theorem dTA_goesAhead_4 : decode prog_7_method_5_code 4 = .ok (.aload_n 1, 1) := by decide +kernel
theorem dTA_goesAhead_5 : decode prog_7_method_5_code 5 = .ok (.getfield 26, 3) := by decide +kernel
theorem dTA_goesAhead_8 : decode prog_7_method_5_code 8 = .ok (.if_icmp .eq 22, 3) := by decide +kernel
theorem dTA_goesAhead_11 : decode prog_7_method_5_code 11 = .ok (.aload_n 0, 1) := by decide +kernel
theorem dTA_goesAhead_12 : decode prog_7_method_5_code 12 = .ok (.getfield 26, 3) := by decide +kernel
theorem dTA_goesAhead_15 : decode prog_7_method_5_code 15 = .ok (.aload_n 1, 1) := by decide +kernel
theorem dTA_goesAhead_16 : decode prog_7_method_5_code 16 = .ok (.getfield 26, 3) := by decide +kernel
theorem dTA_goesAhead_19 : decode prog_7_method_5_code 19 = .ok (.if_icmp .le 7, 3) := by decide +kernel
theorem dTA_goesAhead_22 : decode prog_7_method_5_code 22 = .ok (.iconst 1, 1) := by decide +kernel
theorem dTA_goesAhead_23 : decode prog_7_method_5_code 23 = .ok (.goto 23, 3) := by decide +kernel
theorem dTA_goesAhead_26 : decode prog_7_method_5_code 26 = .ok (.iconst 0, 1) := by decide +kernel
theorem dTA_goesAhead_27 : decode prog_7_method_5_code 27 = .ok (.goto 19, 3) := by decide +kernel
theorem dTA_goesAhead_30 : decode prog_7_method_5_code 30 = .ok (.aload_n 0, 1) := by decide +kernel
theorem dTA_goesAhead_31 : decode prog_7_method_5_code 31 = .ok (.getfield 38, 3) := by decide +kernel
theorem dTA_goesAhead_34 : decode prog_7_method_5_code 34 = .ok (.aload_n 1, 1) := by decide +kernel
theorem dTA_goesAhead_35 : decode prog_7_method_5_code 35 = .ok (.getfield 38, 3) := by decide +kernel
theorem dTA_goesAhead_38 : decode prog_7_method_5_code 38 = .ok (.if_icmp .ge 7, 3) := by decide +kernel
theorem dTA_goesAhead_41 : decode prog_7_method_5_code 41 = .ok (.iconst 1, 1) := by decide +kernel
theorem dTA_goesAhead_42 : decode prog_7_method_5_code 42 = .ok (.goto 4, 3) := by decide +kernel
theorem dTA_goesAhead_45 : decode prog_7_method_5_code 45 = .ok (.iconst 0, 1) := by decide +kernel
theorem dTA_goesAhead_46 : decode prog_7_method_5_code 46 = .ok (.ireturn, 1) := by decide +kernel
theorem dRO_firstAt_0 : decode prog_6_method_5_code 0 = .ok (.aconst_null, 1) := by decide +kernel
theorem dRO_firstAt_1 : decode prog_6_method_5_code 1 = .ok (.astore_n 3, 1) := by decide +kernel
theorem dRO_firstAt_2 : decode prog_6_method_5_code 2 = .ok (.iconst 0, 1) := by decide +kernel
theorem dRO_firstAt_3 : decode prog_6_method_5_code 3 = .ok (.istore 4, 2) := by decide +kernel
theorem dRO_firstAt_5 : decode prog_6_method_5_code 5 = .ok (.iload 4, 2) := by decide +kernel
theorem dRO_firstAt_7 : decode prog_6_method_5_code 7 = .ok (.bipush 6, 2) := by decide +kernel
theorem dRO_firstAt_9 : decode prog_6_method_5_code 9 = .ok (.if_icmp .ge 64, 3) := by decide +kernel
theorem dRO_firstAt_12 : decode prog_6_method_5_code 12 = .ok (.aload_n 0, 1) := by decide +kernel
theorem dRO_firstAt_13 : decode prog_6_method_5_code 13 = .ok (.getfield 13, 3) := by decide +kernel
theorem dRO_firstAt_16 : decode prog_6_method_5_code 16 = .ok (.iload 4, 2) := by decide +kernel
theorem dRO_firstAt_18 : decode prog_6_method_5_code 18 = .ok (.aaload, 1) := by decide +kernel
theorem dRO_firstAt_19 : decode prog_6_method_5_code 19 = .ok (.astore 5, 2) := by decide +kernel
theorem dRO_firstAt_21 : decode prog_6_method_5_code 21 = .ok (.aload 5, 2) := by decide +kernel
theorem dRO_firstAt_23 : decode prog_6_method_5_code 23 = .ok (.getfield 20, 3) := by decide +kernel
theorem dRO_firstAt_26 : decode prog_6_method_5_code 26 = .ok (.iload_n 1, 1) := by decide +kernel
theorem dRO_firstAt_27 : decode prog_6_method_5_code 27 = .ok (.if_icmp .ne 16, 3) := by decide +kernel
theorem dRO_firstAt_30 : decode prog_6_method_5_code 30 = .ok (.aload 5, 2) := by decide +kernel
theorem dRO_firstAt_32 : decode prog_6_method_5_code 32 = .ok (.getfield 28, 3) := by decide +kernel
theorem dRO_firstAt_35 : decode prog_6_method_5_code 35 = .ok (.iload_n 2, 1) := by decide +kernel
theorem dRO_firstAt_36 : decode prog_6_method_5_code 36 = .ok (.if_icmp .ne 7, 3) := by decide +kernel
theorem dRO_firstAt_39 : decode prog_6_method_5_code 39 = .ok (.iconst 1, 1) := by decide +kernel
theorem dRO_firstAt_40 : decode prog_6_method_5_code 40 = .ok (.goto 4, 3) := by decide +kernel
theorem dRO_firstAt_43 : decode prog_6_method_5_code 43 = .ok (.iconst 0, 1) := by decide +kernel
theorem dRO_firstAt_44 : decode prog_6_method_5_code 44 = .ok (.istore 6, 2) := by decide +kernel
theorem dRO_firstAt_46 : decode prog_6_method_5_code 46 = .ok (.iload 6, 2) := by decide +kernel
theorem dRO_firstAt_48 : decode prog_6_method_5_code 48 = .ok (.ifCond .eq 19, 3) := by decide +kernel
theorem dRO_firstAt_51 : decode prog_6_method_5_code 51 = .ok (.aload_n 3, 1) := by decide +kernel
theorem dRO_firstAt_52 : decode prog_6_method_5_code 52 = .ok (.ifnull 12, 3) := by decide +kernel
theorem dRO_firstAt_55 : decode prog_6_method_5_code 55 = .ok (.aload 5, 2) := by decide +kernel
theorem dRO_firstAt_57 : decode prog_6_method_5_code 57 = .ok (.aload_n 3, 1) := by decide +kernel
theorem dRO_firstAt_58 : decode prog_6_method_5_code 58 = .ok (.invokevirtual 31, 3) := by decide +kernel
theorem dRO_firstAt_61 : decode prog_6_method_5_code 61 = .ok (.ifCond .eq 6, 3) := by decide +kernel
theorem dRO_firstAt_64 : decode prog_6_method_5_code 64 = .ok (.aload 5, 2) := by decide +kernel
theorem dRO_firstAt_66 : decode prog_6_method_5_code 66 = .ok (.astore_n 3, 1) := by decide +kernel
theorem dRO_firstAt_67 : decode prog_6_method_5_code 67 = .ok (.iinc 4 1, 3) := by decide +kernel
theorem dRO_firstAt_70 : decode prog_6_method_5_code 70 = .ok (.goto (-65), 3) := by decide +kernel
theorem dRO_firstAt_73 : decode prog_6_method_5_code 73 = .ok (.aload_n 3, 1) := by decide +kernel
theorem dRO_firstAt_74 : decode prog_6_method_5_code 74 = .ok (.areturn, 1) := by decide +kernel
theorem dRO_runner_0 : decode prog_6_method_4_code 0 = .ok (.aload_n 0, 1) := by decide +kernel
theorem dRO_runner_1 : decode prog_6_method_4_code 1 = .ok (.iconst 1, 1) := by decide +kernel
theorem dRO_runner_2 : decode prog_6_method_4_code 2 = .ok (.iconst (-1), 1) := by decide +kernel
theorem dRO_runner_3 : decode prog_6_method_4_code 3 = .ok (.invokevirtual 24, 3) := by decide +kernel
theorem dRO_runner_6 : decode prog_6_method_4_code 6 = .ok (.areturn, 1) := by decide +kernel
theorem dFP_running_0 : decode prog_1_method_13_code 0 = .ok (.aload_n 0, 1) := by decide +kernel
theorem dFP_running_1 : decode prog_1_method_13_code 1 = .ok (.getfield 19, 3) := by decide +kernel
theorem dFP_running_4 : decode prog_1_method_13_code 4 = .ok (.invokevirtual 77, 3) := by decide +kernel
theorem dFP_running_7 : decode prog_1_method_13_code 7 = .ok (.astore_n 1, 1) := by decide +kernel
theorem dFP_running_8 : decode prog_1_method_13_code 8 = .ok (.aload_n 1, 1) := by decide +kernel
theorem dFP_running_9 : decode prog_1_method_13_code 9 = .ok (.ifnonnull 7, 3) := by decide +kernel
theorem dFP_running_12 : decode prog_1_method_13_code 12 = .ok (.iconst (-1), 1) := by decide +kernel
theorem dFP_running_13 : decode prog_1_method_13_code 13 = .ok (.goto 7, 3) := by decide +kernel
theorem dFP_running_16 : decode prog_1_method_13_code 16 = .ok (.aload_n 1, 1) := by decide +kernel
theorem dFP_running_17 : decode prog_1_method_13_code 17 = .ok (.getfield 112, 3) := by decide +kernel
theorem dFP_running_20 : decode prog_1_method_13_code 20 = .ok (.ireturn, 1) := by decide +kernel
theorem dRO_taskAt_0 : decode prog_6_method_2_code 0 = .ok (.iload_n 1, 1) := by decide +kernel
theorem dRO_taskAt_1 : decode prog_6_method_2_code 1 = .ok (.ifCond .lt 18, 3) := by decide +kernel
theorem dRO_taskAt_4 : decode prog_6_method_2_code 4 = .ok (.iload_n 1, 1) := by decide +kernel
theorem dRO_taskAt_5 : decode prog_6_method_2_code 5 = .ok (.bipush 6, 2) := by decide +kernel
theorem dRO_taskAt_7 : decode prog_6_method_2_code 7 = .ok (.if_icmp .ge 12, 3) := by decide +kernel
theorem dRO_taskAt_10 : decode prog_6_method_2_code 10 = .ok (.aload_n 0, 1) := by decide +kernel
theorem dRO_taskAt_11 : decode prog_6_method_2_code 11 = .ok (.getfield 13, 3) := by decide +kernel
theorem dRO_taskAt_14 : decode prog_6_method_2_code 14 = .ok (.iload_n 1, 1) := by decide +kernel
theorem dRO_taskAt_15 : decode prog_6_method_2_code 15 = .ok (.aaload, 1) := by decide +kernel
theorem dRO_taskAt_16 : decode prog_6_method_2_code 16 = .ok (.goto 4, 3) := by decide +kernel
theorem dRO_taskAt_19 : decode prog_6_method_2_code 19 = .ok (.aconst_null, 1) := by decide +kernel
theorem dRO_taskAt_20 : decode prog_6_method_2_code 20 = .ok (.areturn, 1) := by decide +kernel
theorem dRO_placeOf_0 : decode prog_6_method_6_code 0 = .ok (.aload_n 1, 1) := by decide +kernel
theorem dRO_placeOf_1 : decode prog_6_method_6_code 1 = .ok (.getfield 20, 3) := by decide +kernel
theorem dRO_placeOf_4 : decode prog_6_method_6_code 4 = .ok (.iconst 1, 1) := by decide +kernel
theorem dRO_placeOf_5 : decode prog_6_method_6_code 5 = .ok (.if_icmp .eq 5, 3) := by decide +kernel
theorem dRO_placeOf_8 : decode prog_6_method_6_code 8 = .ok (.iconst (-1), 1) := by decide +kernel
theorem dRO_placeOf_9 : decode prog_6_method_6_code 9 = .ok (.ireturn, 1) := by decide +kernel
theorem dRO_placeOf_10 : decode prog_6_method_6_code 10 = .ok (.iconst 0, 1) := by decide +kernel
theorem dRO_placeOf_11 : decode prog_6_method_6_code 11 = .ok (.istore_n 2, 1) := by decide +kernel
theorem dRO_placeOf_12 : decode prog_6_method_6_code 12 = .ok (.iconst 0, 1) := by decide +kernel
theorem dRO_placeOf_13 : decode prog_6_method_6_code 13 = .ok (.istore_n 3, 1) := by decide +kernel
theorem dRO_placeOf_14 : decode prog_6_method_6_code 14 = .ok (.iload_n 3, 1) := by decide +kernel
theorem dRO_placeOf_15 : decode prog_6_method_6_code 15 = .ok (.bipush 6, 2) := by decide +kernel
theorem dRO_placeOf_17 : decode prog_6_method_6_code 17 = .ok (.if_icmp .ge 41, 3) := by decide +kernel
theorem dRO_placeOf_20 : decode prog_6_method_6_code 20 = .ok (.aload_n 0, 1) := by decide +kernel
theorem dRO_placeOf_21 : decode prog_6_method_6_code 21 = .ok (.getfield 13, 3) := by decide +kernel
theorem dRO_placeOf_24 : decode prog_6_method_6_code 24 = .ok (.iload_n 3, 1) := by decide +kernel
theorem dRO_placeOf_25 : decode prog_6_method_6_code 25 = .ok (.aaload, 1) := by decide +kernel
theorem dRO_placeOf_26 : decode prog_6_method_6_code 26 = .ok (.getfield 20, 3) := by decide +kernel
theorem dRO_placeOf_29 : decode prog_6_method_6_code 29 = .ok (.iconst 1, 1) := by decide +kernel
theorem dRO_placeOf_30 : decode prog_6_method_6_code 30 = .ok (.if_icmp .ne 22, 3) := by decide +kernel
theorem dRO_placeOf_33 : decode prog_6_method_6_code 33 = .ok (.aload_n 0, 1) := by decide +kernel
theorem dRO_placeOf_34 : decode prog_6_method_6_code 34 = .ok (.getfield 13, 3) := by decide +kernel
theorem dRO_placeOf_37 : decode prog_6_method_6_code 37 = .ok (.iload_n 3, 1) := by decide +kernel
theorem dRO_placeOf_38 : decode prog_6_method_6_code 38 = .ok (.aaload, 1) := by decide +kernel
theorem dRO_placeOf_39 : decode prog_6_method_6_code 39 = .ok (.getfield 35, 3) := by decide +kernel
theorem dRO_placeOf_42 : decode prog_6_method_6_code 42 = .ok (.aload_n 1, 1) := by decide +kernel
theorem dRO_placeOf_43 : decode prog_6_method_6_code 43 = .ok (.getfield 35, 3) := by decide +kernel
theorem dRO_placeOf_46 : decode prog_6_method_6_code 46 = .ok (.if_icmp .ge 6, 3) := by decide +kernel
theorem dRO_placeOf_49 : decode prog_6_method_6_code 49 = .ok (.iinc 2 1, 3) := by decide +kernel
theorem dRO_placeOf_52 : decode prog_6_method_6_code 52 = .ok (.iinc 3 1, 3) := by decide +kernel
theorem dRO_placeOf_55 : decode prog_6_method_6_code 55 = .ok (.goto (-41), 3) := by decide +kernel
theorem dRO_placeOf_58 : decode prog_6_method_6_code 58 = .ok (.iload_n 2, 1) := by decide +kernel
theorem dRO_placeOf_59 : decode prog_6_method_6_code 59 = .ok (.ireturn, 1) := by decide +kernel
theorem dFP_process_0 : decode prog_1_method_14_code 0 = .ok (.aload_n 0, 1) := by decide +kernel
theorem dFP_process_1 : decode prog_1_method_14_code 1 = .ok (.getfield 19, 3) := by decide +kernel
theorem dFP_process_4 : decode prog_1_method_14_code 4 = .ok (.iload_n 1, 1) := by decide +kernel
theorem dFP_process_5 : decode prog_1_method_14_code 5 = .ok (.invokevirtual 85, 3) := by decide +kernel
theorem dFP_process_8 : decode prog_1_method_14_code 8 = .ok (.astore_n 3, 1) := by decide +kernel
theorem dFP_process_9 : decode prog_1_method_14_code 9 = .ok (.aload_n 3, 1) := by decide +kernel
theorem dFP_process_10 : decode prog_1_method_14_code 10 = .ok (.ifnonnull 5, 3) := by decide +kernel
theorem dFP_process_13 : decode prog_1_method_14_code 13 = .ok (.iconst (-1), 1) := by decide +kernel
theorem dFP_process_14 : decode prog_1_method_14_code 14 = .ok (.ireturn, 1) := by decide +kernel
theorem dFP_process_15 : decode prog_1_method_14_code 15 = .ok (.iload_n 2, 1) := by decide +kernel
theorem dFP_process_16 : decode prog_1_method_14_code 16 = .ok (.tableswitch 92 0 7 #[48, 53, 58, 63, 68, 73, 78, 83], 48) := by decide +kernel
theorem dFP_process_64 : decode prog_1_method_14_code 64 = .ok (.aload_n 3, 1) := by decide +kernel
theorem dFP_process_65 : decode prog_1_method_14_code 65 = .ok (.getfield 89, 3) := by decide +kernel
theorem dFP_process_68 : decode prog_1_method_14_code 68 = .ok (.ireturn, 1) := by decide +kernel
theorem dFP_process_69 : decode prog_1_method_14_code 69 = .ok (.aload_n 3, 1) := by decide +kernel
theorem dFP_process_70 : decode prog_1_method_14_code 70 = .ok (.getfield 115, 3) := by decide +kernel
theorem dFP_process_73 : decode prog_1_method_14_code 73 = .ok (.ireturn, 1) := by decide +kernel
theorem dFP_process_74 : decode prog_1_method_14_code 74 = .ok (.aload_n 3, 1) := by decide +kernel
theorem dFP_process_75 : decode prog_1_method_14_code 75 = .ok (.getfield 118, 3) := by decide +kernel
theorem dFP_process_78 : decode prog_1_method_14_code 78 = .ok (.ireturn, 1) := by decide +kernel
theorem dFP_process_79 : decode prog_1_method_14_code 79 = .ok (.aload_n 3, 1) := by decide +kernel
theorem dFP_process_80 : decode prog_1_method_14_code 80 = .ok (.getfield 121, 3) := by decide +kernel
theorem dFP_process_83 : decode prog_1_method_14_code 83 = .ok (.ireturn, 1) := by decide +kernel
theorem dFP_process_84 : decode prog_1_method_14_code 84 = .ok (.aload_n 3, 1) := by decide +kernel
theorem dFP_process_85 : decode prog_1_method_14_code 85 = .ok (.getfield 124, 3) := by decide +kernel
theorem dFP_process_88 : decode prog_1_method_14_code 88 = .ok (.ireturn, 1) := by decide +kernel
theorem dFP_process_89 : decode prog_1_method_14_code 89 = .ok (.aload_n 3, 1) := by decide +kernel
theorem dFP_process_90 : decode prog_1_method_14_code 90 = .ok (.getfield 127, 3) := by decide +kernel
theorem dFP_process_93 : decode prog_1_method_14_code 93 = .ok (.ireturn, 1) := by decide +kernel
theorem dFP_process_94 : decode prog_1_method_14_code 94 = .ok (.aload_n 3, 1) := by decide +kernel
theorem dFP_process_95 : decode prog_1_method_14_code 95 = .ok (.getfield 130, 3) := by decide +kernel
theorem dFP_process_98 : decode prog_1_method_14_code 98 = .ok (.ireturn, 1) := by decide +kernel
theorem dFP_process_99 : decode prog_1_method_14_code 99 = .ok (.aload_n 0, 1) := by decide +kernel
theorem dFP_process_100 : decode prog_1_method_14_code 100 = .ok (.getfield 19, 3) := by decide +kernel
theorem dFP_process_103 : decode prog_1_method_14_code 103 = .ok (.aload_n 3, 1) := by decide +kernel
theorem dFP_process_104 : decode prog_1_method_14_code 104 = .ok (.invokevirtual 133, 3) := by decide +kernel
theorem dFP_process_107 : decode prog_1_method_14_code 107 = .ok (.ireturn, 1) := by decide +kernel
theorem dFP_process_108 : decode prog_1_method_14_code 108 = .ok (.iconst (-1), 1) := by decide +kernel
theorem dFP_process_109 : decode prog_1_method_14_code 109 = .ok (.ireturn, 1) := by decide +kernel
theorem dTA_wordFromTop_0 : decode prog_7_method_4_code 0 = .ok (.iload_n 1, 1) := by decide +kernel
theorem dTA_wordFromTop_1 : decode prog_7_method_4_code 1 = .ok (.ifCond .lt 27, 3) := by decide +kernel
theorem dTA_wordFromTop_4 : decode prog_7_method_4_code 4 = .ok (.iload_n 1, 1) := by decide +kernel
theorem dTA_wordFromTop_5 : decode prog_7_method_4_code 5 = .ok (.aload_n 0, 1) := by decide +kernel
theorem dTA_wordFromTop_6 : decode prog_7_method_4_code 6 = .ok (.getfield 32, 3) := by decide +kernel
theorem dTA_wordFromTop_9 : decode prog_7_method_4_code 9 = .ok (.if_icmp .ge 19, 3) := by decide +kernel
theorem dTA_wordFromTop_12 : decode prog_7_method_4_code 12 = .ok (.aload_n 0, 1) := by decide +kernel
theorem dTA_wordFromTop_13 : decode prog_7_method_4_code 13 = .ok (.getfield 11, 3) := by decide +kernel
theorem dTA_wordFromTop_16 : decode prog_7_method_4_code 16 = .ok (.aload_n 0, 1) := by decide +kernel
theorem dTA_wordFromTop_17 : decode prog_7_method_4_code 17 = .ok (.getfield 32, 3) := by decide +kernel
theorem dTA_wordFromTop_20 : decode prog_7_method_4_code 20 = .ok (.iconst 1, 1) := by decide +kernel
theorem dTA_wordFromTop_21 : decode prog_7_method_4_code 21 = .ok (.isub, 1) := by decide +kernel
theorem dTA_wordFromTop_22 : decode prog_7_method_4_code 22 = .ok (.iload_n 1, 1) := by decide +kernel
theorem dTA_wordFromTop_23 : decode prog_7_method_4_code 23 = .ok (.isub, 1) := by decide +kernel
theorem dTA_wordFromTop_24 : decode prog_7_method_4_code 24 = .ok (.iaload, 1) := by decide +kernel
theorem dTA_wordFromTop_25 : decode prog_7_method_4_code 25 = .ok (.goto 4, 3) := by decide +kernel
theorem dTA_wordFromTop_28 : decode prog_7_method_4_code 28 = .ok (.iconst (-1), 1) := by decide +kernel
theorem dTA_wordFromTop_29 : decode prog_7_method_4_code 29 = .ok (.ireturn, 1) := by decide +kernel
theorem dFP_stack_0 : decode prog_1_method_15_code 0 = .ok (.aload_n 0, 1) := by decide +kernel
theorem dFP_stack_1 : decode prog_1_method_15_code 1 = .ok (.getfield 19, 3) := by decide +kernel
theorem dFP_stack_4 : decode prog_1_method_15_code 4 = .ok (.iload_n 1, 1) := by decide +kernel
theorem dFP_stack_5 : decode prog_1_method_15_code 5 = .ok (.invokevirtual 85, 3) := by decide +kernel
theorem dFP_stack_8 : decode prog_1_method_15_code 8 = .ok (.astore_n 3, 1) := by decide +kernel
theorem dFP_stack_9 : decode prog_1_method_15_code 9 = .ok (.aload_n 3, 1) := by decide +kernel
theorem dFP_stack_10 : decode prog_1_method_15_code 10 = .ok (.ifnonnull 7, 3) := by decide +kernel
theorem dFP_stack_13 : decode prog_1_method_15_code 13 = .ok (.iconst (-1), 1) := by decide +kernel
theorem dFP_stack_14 : decode prog_1_method_15_code 14 = .ok (.goto 8, 3) := by decide +kernel
theorem dFP_stack_17 : decode prog_1_method_15_code 17 = .ok (.aload_n 3, 1) := by decide +kernel
theorem dFP_stack_18 : decode prog_1_method_15_code 18 = .ok (.iload_n 2, 1) := by decide +kernel
theorem dFP_stack_19 : decode prog_1_method_15_code 19 = .ok (.invokevirtual 137, 3) := by decide +kernel
theorem dFP_stack_22 : decode prog_1_method_15_code 22 = .ok (.ireturn, 1) := by decide +kernel
theorem dME_isPage_0 : decode prog_4_method_3_code 0 = .ok (.iload_n 0, 1) := by decide +kernel
theorem dME_isPage_1 : decode prog_4_method_3_code 1 = .ok (.ifCond .lt 13, 3) := by decide +kernel
theorem dME_isPage_4 : decode prog_4_method_3_code 4 = .ok (.iload_n 0, 1) := by decide +kernel
theorem dME_isPage_5 : decode prog_4_method_3_code 5 = .ok (.bipush 16, 2) := by decide +kernel
theorem dME_isPage_7 : decode prog_4_method_3_code 7 = .ok (.if_icmp .ge 7, 3) := by decide +kernel
theorem dME_isPage_10 : decode prog_4_method_3_code 10 = .ok (.iconst 1, 1) := by decide +kernel
theorem dME_isPage_11 : decode prog_4_method_3_code 11 = .ok (.goto 4, 3) := by decide +kernel
theorem dME_isPage_14 : decode prog_4_method_3_code 14 = .ok (.iconst 0, 1) := by decide +kernel
theorem dME_isPage_15 : decode prog_4_method_3_code 15 = .ok (.ireturn, 1) := by decide +kernel
theorem dME_realOf_0 : decode prog_4_method_7_code 0 = .ok (.aload_n 0, 1) := by decide +kernel
theorem dME_realOf_1 : decode prog_4_method_7_code 1 = .ok (.getfield 15, 3) := by decide +kernel
theorem dME_realOf_4 : decode prog_4_method_7_code 4 = .ok (.iload_n 1, 1) := by decide +kernel
theorem dME_realOf_5 : decode prog_4_method_7_code 5 = .ok (.iaload, 1) := by decide +kernel
theorem dME_realOf_6 : decode prog_4_method_7_code 6 = .ok (.ireturn, 1) := by decide +kernel
theorem dME_isGuarded_0 : decode prog_4_method_9_code 0 = .ok (.aload_n 0, 1) := by decide +kernel
theorem dME_isGuarded_1 : decode prog_4_method_9_code 1 = .ok (.getfield 18, 3) := by decide +kernel
theorem dME_isGuarded_4 : decode prog_4_method_9_code 4 = .ok (.iload_n 1, 1) := by decide +kernel
theorem dME_isGuarded_5 : decode prog_4_method_9_code 5 = .ok (.baload, 1) := by decide +kernel
theorem dME_isGuarded_6 : decode prog_4_method_9_code 6 = .ok (.ireturn, 1) := by decide +kernel
theorem dFP_page_0 : decode prog_1_method_16_code 0 = .ok (.iload_n 1, 1) := by decide +kernel
theorem dFP_page_1 : decode prog_1_method_16_code 1 = .ok (.invokestatic 32, 3) := by decide +kernel
theorem dFP_page_4 : decode prog_1_method_16_code 4 = .ok (.ifCond .ne 5, 3) := by decide +kernel
theorem dFP_page_7 : decode prog_1_method_16_code 7 = .ok (.iconst (-1), 1) := by decide +kernel
theorem dFP_page_8 : decode prog_1_method_16_code 8 = .ok (.ireturn, 1) := by decide +kernel
theorem dFP_page_9 : decode prog_1_method_16_code 9 = .ok (.iload_n 2, 1) := by decide +kernel
theorem dFP_page_10 : decode prog_1_method_16_code 10 = .ok (.lookupswitch 52 #[(0, 26), (1, 35)], 26) := by decide +kernel
theorem dFP_page_36 : decode prog_1_method_16_code 36 = .ok (.aload_n 0, 1) := by decide +kernel
theorem dFP_page_37 : decode prog_1_method_16_code 37 = .ok (.getfield 10, 3) := by decide +kernel
theorem dFP_page_40 : decode prog_1_method_16_code 40 = .ok (.iload_n 1, 1) := by decide +kernel
theorem dFP_page_41 : decode prog_1_method_16_code 41 = .ok (.invokevirtual 140, 3) := by decide +kernel
theorem dFP_page_44 : decode prog_1_method_16_code 44 = .ok (.ireturn, 1) := by decide +kernel
theorem dFP_page_45 : decode prog_1_method_16_code 45 = .ok (.aload_n 0, 1) := by decide +kernel
theorem dFP_page_46 : decode prog_1_method_16_code 46 = .ok (.getfield 10, 3) := by decide +kernel
theorem dFP_page_49 : decode prog_1_method_16_code 49 = .ok (.iload_n 1, 1) := by decide +kernel
theorem dFP_page_50 : decode prog_1_method_16_code 50 = .ok (.invokevirtual 143, 3) := by decide +kernel
theorem dFP_page_53 : decode prog_1_method_16_code 53 = .ok (.ifCond .eq 7, 3) := by decide +kernel
theorem dFP_page_56 : decode prog_1_method_16_code 56 = .ok (.iconst 1, 1) := by decide +kernel
theorem dFP_page_57 : decode prog_1_method_16_code 57 = .ok (.goto 4, 3) := by decide +kernel
theorem dFP_page_60 : decode prog_1_method_16_code 60 = .ok (.iconst 0, 1) := by decide +kernel
theorem dFP_page_61 : decode prog_1_method_16_code 61 = .ok (.ireturn, 1) := by decide +kernel
theorem dFP_page_62 : decode prog_1_method_16_code 62 = .ok (.iconst (-1), 1) := by decide +kernel
theorem dFP_page_63 : decode prog_1_method_16_code 63 = .ok (.ireturn, 1) := by decide +kernel
theorem dME_look_0 : decode prog_4_method_12_code 0 = .ok (.aload_n 0, 1) := by decide +kernel
theorem dME_look_1 : decode prog_4_method_12_code 1 = .ok (.getfield 15, 3) := by decide +kernel
theorem dME_look_4 : decode prog_4_method_12_code 4 = .ok (.iload_n 1, 1) := by decide +kernel
theorem dME_look_5 : decode prog_4_method_12_code 5 = .ok (.bipush 8, 2) := by decide +kernel
theorem dME_look_7 : decode prog_4_method_12_code 7 = .ok (.ishr, 1) := by decide +kernel
theorem dME_look_8 : decode prog_4_method_12_code 8 = .ok (.bipush 15, 2) := by decide +kernel
theorem dME_look_10 : decode prog_4_method_12_code 10 = .ok (.iand, 1) := by decide +kernel
theorem dME_look_11 : decode prog_4_method_12_code 11 = .ok (.iaload, 1) := by decide +kernel
theorem dME_look_12 : decode prog_4_method_12_code 12 = .ok (.istore_n 2, 1) := by decide +kernel
theorem dME_look_13 : decode prog_4_method_12_code 13 = .ok (.iload_n 2, 1) := by decide +kernel
theorem dME_look_14 : decode prog_4_method_12_code 14 = .ok (.iconst (-1), 1) := by decide +kernel
theorem dME_look_15 : decode prog_4_method_12_code 15 = .ok (.if_icmp .ne 7, 3) := by decide +kernel
theorem dME_look_18 : decode prog_4_method_12_code 18 = .ok (.iconst 0, 1) := by decide +kernel
theorem dME_look_19 : decode prog_4_method_12_code 19 = .ok (.goto 19, 3) := by decide +kernel
theorem dME_look_22 : decode prog_4_method_12_code 22 = .ok (.aload_n 0, 1) := by decide +kernel
theorem dME_look_23 : decode prog_4_method_12_code 23 = .ok (.getfield 11, 3) := by decide +kernel
theorem dME_look_26 : decode prog_4_method_12_code 26 = .ok (.iload_n 2, 1) := by decide +kernel
theorem dME_look_27 : decode prog_4_method_12_code 27 = .ok (.sipush 256, 3) := by decide +kernel
theorem dME_look_30 : decode prog_4_method_12_code 30 = .ok (.imul, 1) := by decide +kernel
theorem dME_look_31 : decode prog_4_method_12_code 31 = .ok (.iload_n 1, 1) := by decide +kernel
theorem dME_look_32 : decode prog_4_method_12_code 32 = .ok (.sipush 255, 3) := by decide +kernel
theorem dME_look_35 : decode prog_4_method_12_code 35 = .ok (.iand, 1) := by decide +kernel
theorem dME_look_36 : decode prog_4_method_12_code 36 = .ok (.iadd, 1) := by decide +kernel
theorem dME_look_37 : decode prog_4_method_12_code 37 = .ok (.iaload, 1) := by decide +kernel
theorem dME_look_38 : decode prog_4_method_12_code 38 = .ok (.ireturn, 1) := by decide +kernel
theorem dFP_free_0 : decode prog_1_method_17_code 0 = .ok (.iload_n 1, 1) := by decide +kernel
theorem dFP_free_1 : decode prog_1_method_17_code 1 = .ok (.ifCond .lt 9, 3) := by decide +kernel
theorem dFP_free_4 : decode prog_1_method_17_code 4 = .ok (.iload_n 1, 1) := by decide +kernel
theorem dFP_free_5 : decode prog_1_method_17_code 5 = .ok (.bipush 8, 2) := by decide +kernel
theorem dFP_free_7 : decode prog_1_method_17_code 7 = .ok (.if_icmp .lt 5, 3) := by decide +kernel
theorem dFP_free_10 : decode prog_1_method_17_code 10 = .ok (.iconst (-1), 1) := by decide +kernel
theorem dFP_free_11 : decode prog_1_method_17_code 11 = .ok (.ireturn, 1) := by decide +kernel
theorem dFP_free_12 : decode prog_1_method_17_code 12 = .ok (.iconst 0, 1) := by decide +kernel
theorem dFP_free_13 : decode prog_1_method_17_code 13 = .ok (.istore_n 2, 1) := by decide +kernel
theorem dFP_free_14 : decode prog_1_method_17_code 14 = .ok (.aload_n 0, 1) := by decide +kernel
theorem dFP_free_15 : decode prog_1_method_17_code 15 = .ok (.getfield 10, 3) := by decide +kernel
theorem dFP_free_18 : decode prog_1_method_17_code 18 = .ok (.bipush 16, 2) := by decide +kernel
theorem dFP_free_20 : decode prog_1_method_17_code 20 = .ok (.iload_n 1, 1) := by decide +kernel
theorem dFP_free_21 : decode prog_1_method_17_code 21 = .ok (.iadd, 1) := by decide +kernel
theorem dFP_free_22 : decode prog_1_method_17_code 22 = .ok (.invokevirtual 66, 3) := by decide +kernel
theorem dFP_free_25 : decode prog_1_method_17_code 25 = .ok (.istore_n 3, 1) := by decide +kernel
theorem dFP_free_26 : decode prog_1_method_17_code 26 = .ok (.iload_n 3, 1) := by decide +kernel
theorem dFP_free_27 : decode prog_1_method_17_code 27 = .ok (.ifCond .eq 25, 3) := by decide +kernel
theorem dFP_free_30 : decode prog_1_method_17_code 30 = .ok (.iload_n 2, 1) := by decide +kernel
theorem dFP_free_31 : decode prog_1_method_17_code 31 = .ok (.sipush 600, 3) := by decide +kernel
theorem dFP_free_34 : decode prog_1_method_17_code 34 = .ok (.if_icmp .ge 18, 3) := by decide +kernel
theorem dFP_free_37 : decode prog_1_method_17_code 37 = .ok (.iinc 2 1, 3) := by decide +kernel
theorem dFP_free_40 : decode prog_1_method_17_code 40 = .ok (.aload_n 0, 1) := by decide +kernel
theorem dFP_free_41 : decode prog_1_method_17_code 41 = .ok (.getfield 10, 3) := by decide +kernel
theorem dFP_free_44 : decode prog_1_method_17_code 44 = .ok (.iload_n 3, 1) := by decide +kernel
theorem dFP_free_45 : decode prog_1_method_17_code 45 = .ok (.invokevirtual 66, 3) := by decide +kernel
theorem dFP_free_48 : decode prog_1_method_17_code 48 = .ok (.istore_n 3, 1) := by decide +kernel
theorem dFP_free_49 : decode prog_1_method_17_code 49 = .ok (.goto (-23), 3) := by decide +kernel
theorem dFP_free_52 : decode prog_1_method_17_code 52 = .ok (.iload_n 2, 1) := by decide +kernel
theorem dFP_free_53 : decode prog_1_method_17_code 53 = .ok (.ireturn, 1) := by decide +kernel
theorem dME_isRealPage_0 : decode prog_4_method_4_code 0 = .ok (.iload_n 0, 1) := by decide +kernel
theorem dME_isRealPage_1 : decode prog_4_method_4_code 1 = .ok (.ifCond .lt 13, 3) := by decide +kernel
theorem dME_isRealPage_4 : decode prog_4_method_4_code 4 = .ok (.iload_n 0, 1) := by decide +kernel
theorem dME_isRealPage_5 : decode prog_4_method_4_code 5 = .ok (.bipush 12, 2) := by decide +kernel
theorem dME_isRealPage_7 : decode prog_4_method_4_code 7 = .ok (.if_icmp .ge 7, 3) := by decide +kernel
theorem dME_isRealPage_10 : decode prog_4_method_4_code 10 = .ok (.iconst 1, 1) := by decide +kernel
theorem dME_isRealPage_11 : decode prog_4_method_4_code 11 = .ok (.goto 4, 3) := by decide +kernel
theorem dME_isRealPage_14 : decode prog_4_method_4_code 14 = .ok (.iconst 0, 1) := by decide +kernel
theorem dME_isRealPage_15 : decode prog_4_method_4_code 15 = .ok (.ireturn, 1) := by decide +kernel
theorem dME_assign_0 : decode prog_4_method_6_code 0 = .ok (.aload_n 0, 1) := by decide +kernel
theorem dME_assign_1 : decode prog_4_method_6_code 1 = .ok (.getfield 15, 3) := by decide +kernel
theorem dME_assign_4 : decode prog_4_method_6_code 4 = .ok (.iload_n 1, 1) := by decide +kernel
theorem dME_assign_5 : decode prog_4_method_6_code 5 = .ok (.iload_n 2, 1) := by decide +kernel
theorem dME_assign_6 : decode prog_4_method_6_code 6 = .ok (.iastore, 1) := by decide +kernel
theorem dME_assign_7 : decode prog_4_method_6_code 7 = .ok (.return_, 1) := by decide +kernel
theorem dME_setGuarded_0 : decode prog_4_method_8_code 0 = .ok (.aload_n 0, 1) := by decide +kernel
theorem dME_setGuarded_1 : decode prog_4_method_8_code 1 = .ok (.getfield 18, 3) := by decide +kernel
theorem dME_setGuarded_4 : decode prog_4_method_8_code 4 = .ok (.iload_n 1, 1) := by decide +kernel
theorem dME_setGuarded_5 : decode prog_4_method_8_code 5 = .ok (.iload_n 2, 1) := by decide +kernel
theorem dME_setGuarded_6 : decode prog_4_method_8_code 6 = .ok (.bastore, 1) := by decide +kernel
theorem dME_setGuarded_7 : decode prog_4_method_8_code 7 = .ok (.return_, 1) := by decide +kernel
theorem dME_takeNotes_0 : decode prog_4_method_10_code 0 = .ok (.aload_n 0, 1) := by decide +kernel
theorem dME_takeNotes_1 : decode prog_4_method_10_code 1 = .ok (.getfield 22, 3) := by decide +kernel
theorem dME_takeNotes_4 : decode prog_4_method_10_code 4 = .ok (.iload_n 1, 1) := by decide +kernel
theorem dME_takeNotes_5 : decode prog_4_method_10_code 5 = .ok (.iaload, 1) := by decide +kernel
theorem dME_takeNotes_6 : decode prog_4_method_10_code 6 = .ok (.istore_n 2, 1) := by decide +kernel
theorem dME_takeNotes_7 : decode prog_4_method_10_code 7 = .ok (.aload_n 0, 1) := by decide +kernel
theorem dME_takeNotes_8 : decode prog_4_method_10_code 8 = .ok (.getfield 22, 3) := by decide +kernel
theorem dME_takeNotes_11 : decode prog_4_method_10_code 11 = .ok (.iload_n 1, 1) := by decide +kernel
theorem dME_takeNotes_12 : decode prog_4_method_10_code 12 = .ok (.iconst 0, 1) := by decide +kernel
theorem dME_takeNotes_13 : decode prog_4_method_10_code 13 = .ok (.iastore, 1) := by decide +kernel
theorem dME_takeNotes_14 : decode prog_4_method_10_code 14 = .ok (.iload_n 2, 1) := by decide +kernel
theorem dME_takeNotes_15 : decode prog_4_method_10_code 15 = .ok (.ireturn, 1) := by decide +kernel
theorem dME_isAddress_0 : decode prog_4_method_2_code 0 = .ok (.iload_n 0, 1) := by decide +kernel
theorem dME_isAddress_1 : decode prog_4_method_2_code 1 = .ok (.ifCond .lt 14, 3) := by decide +kernel
theorem dME_isAddress_4 : decode prog_4_method_2_code 4 = .ok (.iload_n 0, 1) := by decide +kernel
theorem dME_isAddress_5 : decode prog_4_method_2_code 5 = .ok (.sipush 4096, 3) := by decide +kernel
theorem dME_isAddress_8 : decode prog_4_method_2_code 8 = .ok (.if_icmp .ge 7, 3) := by decide +kernel
theorem dME_isAddress_11 : decode prog_4_method_2_code 11 = .ok (.iconst 1, 1) := by decide +kernel
theorem dME_isAddress_12 : decode prog_4_method_2_code 12 = .ok (.goto 4, 3) := by decide +kernel
theorem dME_isAddress_15 : decode prog_4_method_2_code 15 = .ok (.iconst 0, 1) := by decide +kernel
theorem dME_isAddress_16 : decode prog_4_method_2_code 16 = .ok (.ireturn, 1) := by decide +kernel
theorem dME_isThere_0 : decode prog_4_method_11_code 0 = .ok (.aload_n 0, 1) := by decide +kernel
theorem dME_isThere_1 : decode prog_4_method_11_code 1 = .ok (.getfield 15, 3) := by decide +kernel
theorem dME_isThere_4 : decode prog_4_method_11_code 4 = .ok (.iload_n 1, 1) := by decide +kernel
theorem dME_isThere_5 : decode prog_4_method_11_code 5 = .ok (.bipush 8, 2) := by decide +kernel
theorem dME_isThere_7 : decode prog_4_method_11_code 7 = .ok (.ishr, 1) := by decide +kernel
theorem dME_isThere_8 : decode prog_4_method_11_code 8 = .ok (.bipush 15, 2) := by decide +kernel
theorem dME_isThere_10 : decode prog_4_method_11_code 10 = .ok (.iand, 1) := by decide +kernel
theorem dME_isThere_11 : decode prog_4_method_11_code 11 = .ok (.iaload, 1) := by decide +kernel
theorem dME_isThere_12 : decode prog_4_method_11_code 12 = .ok (.iconst (-1), 1) := by decide +kernel
theorem dME_isThere_13 : decode prog_4_method_11_code 13 = .ok (.if_icmp .eq 7, 3) := by decide +kernel
theorem dME_isThere_16 : decode prog_4_method_11_code 16 = .ok (.iconst 1, 1) := by decide +kernel
theorem dME_isThere_17 : decode prog_4_method_11_code 17 = .ok (.goto 4, 3) := by decide +kernel
theorem dME_isThere_20 : decode prog_4_method_11_code 20 = .ok (.iconst 0, 1) := by decide +kernel
theorem dME_isThere_21 : decode prog_4_method_11_code 21 = .ok (.ireturn, 1) := by decide +kernel
theorem dME_put_0 : decode prog_4_method_13_code 0 = .ok (.aload_n 0, 1) := by decide +kernel
theorem dME_put_1 : decode prog_4_method_13_code 1 = .ok (.getfield 15, 3) := by decide +kernel
theorem dME_put_4 : decode prog_4_method_13_code 4 = .ok (.iload_n 1, 1) := by decide +kernel
theorem dME_put_5 : decode prog_4_method_13_code 5 = .ok (.bipush 8, 2) := by decide +kernel
theorem dME_put_7 : decode prog_4_method_13_code 7 = .ok (.ishr, 1) := by decide +kernel
theorem dME_put_8 : decode prog_4_method_13_code 8 = .ok (.bipush 15, 2) := by decide +kernel
theorem dME_put_10 : decode prog_4_method_13_code 10 = .ok (.iand, 1) := by decide +kernel
theorem dME_put_11 : decode prog_4_method_13_code 11 = .ok (.iaload, 1) := by decide +kernel
theorem dME_put_12 : decode prog_4_method_13_code 12 = .ok (.istore_n 3, 1) := by decide +kernel
theorem dME_put_13 : decode prog_4_method_13_code 13 = .ok (.iload_n 3, 1) := by decide +kernel
theorem dME_put_14 : decode prog_4_method_13_code 14 = .ok (.iconst (-1), 1) := by decide +kernel
theorem dME_put_15 : decode prog_4_method_13_code 15 = .ok (.if_icmp .eq 23, 3) := by decide +kernel
theorem dME_put_18 : decode prog_4_method_13_code 18 = .ok (.aload_n 0, 1) := by decide +kernel
theorem dME_put_19 : decode prog_4_method_13_code 19 = .ok (.getfield 11, 3) := by decide +kernel
theorem dME_put_22 : decode prog_4_method_13_code 22 = .ok (.iload_n 3, 1) := by decide +kernel
theorem dME_put_23 : decode prog_4_method_13_code 23 = .ok (.sipush 256, 3) := by decide +kernel
theorem dME_put_26 : decode prog_4_method_13_code 26 = .ok (.imul, 1) := by decide +kernel
theorem dME_put_27 : decode prog_4_method_13_code 27 = .ok (.iload_n 1, 1) := by decide +kernel
theorem dME_put_28 : decode prog_4_method_13_code 28 = .ok (.sipush 255, 3) := by decide +kernel
theorem dME_put_31 : decode prog_4_method_13_code 31 = .ok (.iand, 1) := by decide +kernel
theorem dME_put_32 : decode prog_4_method_13_code 32 = .ok (.iadd, 1) := by decide +kernel
theorem dME_put_33 : decode prog_4_method_13_code 33 = .ok (.iload_n 2, 1) := by decide +kernel
theorem dME_put_34 : decode prog_4_method_13_code 34 = .ok (.ldc 31, 2) := by decide +kernel
theorem dME_put_36 : decode prog_4_method_13_code 36 = .ok (.iand, 1) := by decide +kernel
theorem dME_put_37 : decode prog_4_method_13_code 37 = .ok (.iastore, 1) := by decide +kernel
theorem dME_put_38 : decode prog_4_method_13_code 38 = .ok (.return_, 1) := by decide +kernel
theorem dME_begin_0 : decode prog_4_method_15_code 0 = .ok (.aload_n 0, 1) := by decide +kernel
theorem dME_begin_1 : decode prog_4_method_15_code 1 = .ok (.iconst 0, 1) := by decide +kernel
theorem dME_begin_2 : decode prog_4_method_15_code 2 = .ok (.putfield 40, 3) := by decide +kernel
theorem dME_begin_5 : decode prog_4_method_15_code 5 = .ok (.aload_n 0, 1) := by decide +kernel
theorem dME_begin_6 : decode prog_4_method_15_code 6 = .ok (.iconst 0, 1) := by decide +kernel
theorem dME_begin_7 : decode prog_4_method_15_code 7 = .ok (.putfield 44, 3) := by decide +kernel
theorem dME_begin_10 : decode prog_4_method_15_code 10 = .ok (.return_, 1) := by decide +kernel
theorem dRO_leastFree_0 : decode prog_6_method_3_code 0 = .ok (.iconst 0, 1) := by decide +kernel
theorem dRO_leastFree_1 : decode prog_6_method_3_code 1 = .ok (.istore_n 1, 1) := by decide +kernel
theorem dRO_leastFree_2 : decode prog_6_method_3_code 2 = .ok (.iload_n 1, 1) := by decide +kernel
theorem dRO_leastFree_3 : decode prog_6_method_3_code 3 = .ok (.bipush 6, 2) := by decide +kernel
theorem dRO_leastFree_5 : decode prog_6_method_3_code 5 = .ok (.if_icmp .ge 28, 3) := by decide +kernel
theorem dRO_leastFree_8 : decode prog_6_method_3_code 8 = .ok (.aload_n 0, 1) := by decide +kernel
theorem dRO_leastFree_9 : decode prog_6_method_3_code 9 = .ok (.getfield 13, 3) := by decide +kernel
theorem dRO_leastFree_12 : decode prog_6_method_3_code 12 = .ok (.iload_n 1, 1) := by decide +kernel
theorem dRO_leastFree_13 : decode prog_6_method_3_code 13 = .ok (.aaload, 1) := by decide +kernel
theorem dRO_leastFree_14 : decode prog_6_method_3_code 14 = .ok (.getfield 20, 3) := by decide +kernel
theorem dRO_leastFree_17 : decode prog_6_method_3_code 17 = .ok (.ifCond .ne 10, 3) := by decide +kernel
theorem dRO_leastFree_20 : decode prog_6_method_3_code 20 = .ok (.aload_n 0, 1) := by decide +kernel
theorem dRO_leastFree_21 : decode prog_6_method_3_code 21 = .ok (.getfield 13, 3) := by decide +kernel
theorem dRO_leastFree_24 : decode prog_6_method_3_code 24 = .ok (.iload_n 1, 1) := by decide +kernel
theorem dRO_leastFree_25 : decode prog_6_method_3_code 25 = .ok (.aaload, 1) := by decide +kernel
theorem dRO_leastFree_26 : decode prog_6_method_3_code 26 = .ok (.areturn, 1) := by decide +kernel
theorem dRO_leastFree_27 : decode prog_6_method_3_code 27 = .ok (.iinc 1 1, 3) := by decide +kernel
theorem dRO_leastFree_30 : decode prog_6_method_3_code 30 = .ok (.goto (-28), 3) := by decide +kernel
theorem dRO_leastFree_33 : decode prog_6_method_3_code 33 = .ok (.aconst_null, 1) := by decide +kernel
theorem dRO_leastFree_34 : decode prog_6_method_3_code 34 = .ok (.areturn, 1) := by decide +kernel
theorem dME_fail_0 : decode prog_4_method_18_code 0 = .ok (.aload_n 0, 1) := by decide +kernel
theorem dME_fail_1 : decode prog_4_method_18_code 1 = .ok (.getfield 44, 3) := by decide +kernel
theorem dME_fail_4 : decode prog_4_method_18_code 4 = .ok (.ifCond .ne 8, 3) := by decide +kernel
theorem dME_fail_7 : decode prog_4_method_18_code 7 = .ok (.aload_n 0, 1) := by decide +kernel
theorem dME_fail_8 : decode prog_4_method_18_code 8 = .ok (.iload_n 1, 1) := by decide +kernel
theorem dME_fail_9 : decode prog_4_method_18_code 9 = .ok (.putfield 44, 3) := by decide +kernel
theorem dME_fail_12 : decode prog_4_method_18_code 12 = .ok (.return_, 1) := by decide +kernel
theorem dFR_isElsewhere_0 : decode prog_2_method_5_code 0 = .ok (.iload_n 0, 1) := by decide +kernel
theorem dFR_isElsewhere_1 : decode prog_2_method_5_code 1 = .ok (.iconst 3, 1) := by decide +kernel
theorem dFR_isElsewhere_2 : decode prog_2_method_5_code 2 = .ok (.iand, 1) := by decide +kernel
theorem dFR_isElsewhere_3 : decode prog_2_method_5_code 3 = .ok (.iconst 2, 1) := by decide +kernel
theorem dFR_isElsewhere_4 : decode prog_2_method_5_code 4 = .ok (.if_icmp .ne 7, 3) := by decide +kernel
theorem dFR_isElsewhere_7 : decode prog_2_method_5_code 7 = .ok (.iconst 1, 1) := by decide +kernel
theorem dFR_isElsewhere_8 : decode prog_2_method_5_code 8 = .ok (.goto 4, 3) := by decide +kernel
theorem dFR_isElsewhere_11 : decode prog_2_method_5_code 11 = .ok (.iconst 0, 1) := by decide +kernel
theorem dFR_isElsewhere_12 : decode prog_2_method_5_code 12 = .ok (.ireturn, 1) := by decide +kernel
theorem dME_read_0 : decode prog_4_method_19_code 0 = .ok (.aload_n 0, 1) := by decide +kernel
theorem dME_read_1 : decode prog_4_method_19_code 1 = .ok (.getfield 15, 3) := by decide +kernel
theorem dME_read_4 : decode prog_4_method_19_code 4 = .ok (.iload_n 1, 1) := by decide +kernel
theorem dME_read_5 : decode prog_4_method_19_code 5 = .ok (.bipush 8, 2) := by decide +kernel
theorem dME_read_7 : decode prog_4_method_19_code 7 = .ok (.ishr, 1) := by decide +kernel
theorem dME_read_8 : decode prog_4_method_19_code 8 = .ok (.bipush 15, 2) := by decide +kernel
theorem dME_read_10 : decode prog_4_method_19_code 10 = .ok (.iand, 1) := by decide +kernel
theorem dME_read_11 : decode prog_4_method_19_code 11 = .ok (.iaload, 1) := by decide +kernel
theorem dME_read_12 : decode prog_4_method_19_code 12 = .ok (.istore_n 2, 1) := by decide +kernel
theorem dME_read_13 : decode prog_4_method_19_code 13 = .ok (.aload_n 0, 1) := by decide +kernel
theorem dME_read_14 : decode prog_4_method_19_code 14 = .ok (.getfield 44, 3) := by decide +kernel
theorem dME_read_17 : decode prog_4_method_19_code 17 = .ok (.ifCond .ne 13, 3) := by decide +kernel
theorem dME_read_20 : decode prog_4_method_19_code 20 = .ok (.iload_n 2, 1) := by decide +kernel
theorem dME_read_21 : decode prog_4_method_19_code 21 = .ok (.iconst (-1), 1) := by decide +kernel
theorem dME_read_22 : decode prog_4_method_19_code 22 = .ok (.if_icmp .ne 8, 3) := by decide +kernel
theorem dME_read_25 : decode prog_4_method_19_code 25 = .ok (.aload_n 0, 1) := by decide +kernel
theorem dME_read_26 : decode prog_4_method_19_code 26 = .ok (.iconst 1, 1) := by decide +kernel
theorem dME_read_27 : decode prog_4_method_19_code 27 = .ok (.putfield 44, 3) := by decide +kernel
theorem dME_read_30 : decode prog_4_method_19_code 30 = .ok (.aload_n 0, 1) := by decide +kernel
theorem dME_read_31 : decode prog_4_method_19_code 31 = .ok (.getfield 44, 3) := by decide +kernel
theorem dME_read_34 : decode prog_4_method_19_code 34 = .ok (.ifCond .eq 5, 3) := by decide +kernel
theorem dME_read_37 : decode prog_4_method_19_code 37 = .ok (.iconst 0, 1) := by decide +kernel
theorem dME_read_38 : decode prog_4_method_19_code 38 = .ok (.ireturn, 1) := by decide +kernel
theorem dME_read_39 : decode prog_4_method_19_code 39 = .ok (.aload_n 0, 1) := by decide +kernel
theorem dME_read_40 : decode prog_4_method_19_code 40 = .ok (.getfield 22, 3) := by decide +kernel
theorem dME_read_43 : decode prog_4_method_19_code 43 = .ok (.iload_n 2, 1) := by decide +kernel
theorem dME_read_44 : decode prog_4_method_19_code 44 = .ok (.dup2, 1) := by decide +kernel
theorem dME_read_45 : decode prog_4_method_19_code 45 = .ok (.iaload, 1) := by decide +kernel
theorem dME_read_46 : decode prog_4_method_19_code 46 = .ok (.iconst 1, 1) := by decide +kernel
theorem dME_read_47 : decode prog_4_method_19_code 47 = .ok (.ior, 1) := by decide +kernel
theorem dME_read_48 : decode prog_4_method_19_code 48 = .ok (.iastore, 1) := by decide +kernel
theorem dME_read_49 : decode prog_4_method_19_code 49 = .ok (.aload_n 0, 1) := by decide +kernel
theorem dME_read_50 : decode prog_4_method_19_code 50 = .ok (.getfield 11, 3) := by decide +kernel
theorem dME_read_53 : decode prog_4_method_19_code 53 = .ok (.iload_n 2, 1) := by decide +kernel
theorem dME_read_54 : decode prog_4_method_19_code 54 = .ok (.sipush 256, 3) := by decide +kernel
theorem dME_read_57 : decode prog_4_method_19_code 57 = .ok (.imul, 1) := by decide +kernel
theorem dME_read_58 : decode prog_4_method_19_code 58 = .ok (.iload_n 1, 1) := by decide +kernel
theorem dME_read_59 : decode prog_4_method_19_code 59 = .ok (.sipush 255, 3) := by decide +kernel
theorem dME_read_62 : decode prog_4_method_19_code 62 = .ok (.iand, 1) := by decide +kernel
theorem dME_read_63 : decode prog_4_method_19_code 63 = .ok (.iadd, 1) := by decide +kernel
theorem dME_read_64 : decode prog_4_method_19_code 64 = .ok (.iaload, 1) := by decide +kernel
theorem dME_read_65 : decode prog_4_method_19_code 65 = .ok (.ireturn, 1) := by decide +kernel
theorem dFR_meant_0 : decode prog_2_method_6_code 0 = .ok (.iload_n 1, 1) := by decide +kernel
theorem dFR_meant_1 : decode prog_2_method_6_code 1 = .ok (.invokestatic 29, 3) := by decide +kernel
theorem dFR_meant_4 : decode prog_2_method_6_code 4 = .ok (.ifCond .eq 16, 3) := by decide +kernel
theorem dFR_meant_7 : decode prog_2_method_6_code 7 = .ok (.aload_n 0, 1) := by decide +kernel
theorem dFR_meant_8 : decode prog_2_method_6_code 8 = .ok (.getfield 9, 3) := by decide +kernel
theorem dFR_meant_11 : decode prog_2_method_6_code 11 = .ok (.iload_n 1, 1) := by decide +kernel
theorem dFR_meant_12 : decode prog_2_method_6_code 12 = .ok (.iconst 2, 1) := by decide +kernel
theorem dFR_meant_13 : decode prog_2_method_6_code 13 = .ok (.isub, 1) := by decide +kernel
theorem dFR_meant_14 : decode prog_2_method_6_code 14 = .ok (.invokevirtual 15, 3) := by decide +kernel
theorem dFR_meant_17 : decode prog_2_method_6_code 17 = .ok (.goto 4, 3) := by decide +kernel
theorem dFR_meant_20 : decode prog_2_method_6_code 20 = .ok (.iload_n 1, 1) := by decide +kernel
theorem dFR_meant_21 : decode prog_2_method_6_code 21 = .ok (.istore_n 2, 1) := by decide +kernel
theorem dFR_meant_22 : decode prog_2_method_6_code 22 = .ok (.iload_n 2, 1) := by decide +kernel
theorem dFR_meant_23 : decode prog_2_method_6_code 23 = .ok (.ifCond .eq 10, 3) := by decide +kernel
theorem dFR_meant_26 : decode prog_2_method_6_code 26 = .ok (.iload_n 2, 1) := by decide +kernel
theorem dFR_meant_27 : decode prog_2_method_6_code 27 = .ok (.invokestatic 29, 3) := by decide +kernel
theorem dFR_meant_30 : decode prog_2_method_6_code 30 = .ok (.ifCond .eq 13, 3) := by decide +kernel
theorem dFR_meant_33 : decode prog_2_method_6_code 33 = .ok (.aload_n 0, 1) := by decide +kernel
theorem dFR_meant_34 : decode prog_2_method_6_code 34 = .ok (.getfield 9, 3) := by decide +kernel
theorem dFR_meant_37 : decode prog_2_method_6_code 37 = .ok (.iconst 4, 1) := by decide +kernel
theorem dFR_meant_38 : decode prog_2_method_6_code 38 = .ok (.invokevirtual 21, 3) := by decide +kernel
theorem dFR_meant_41 : decode prog_2_method_6_code 41 = .ok (.iconst 0, 1) := by decide +kernel
theorem dFR_meant_42 : decode prog_2_method_6_code 42 = .ok (.ireturn, 1) := by decide +kernel
theorem dFR_meant_43 : decode prog_2_method_6_code 43 = .ok (.iload_n 2, 1) := by decide +kernel
theorem dFR_meant_44 : decode prog_2_method_6_code 44 = .ok (.ireturn, 1) := by decide +kernel
theorem dFR_isProcedure_0 : decode prog_2_method_4_code 0 = .ok (.iload_n 0, 1) := by decide +kernel
theorem dFR_isProcedure_1 : decode prog_2_method_4_code 1 = .ok (.iconst 1, 1) := by decide +kernel
theorem dFR_isProcedure_2 : decode prog_2_method_4_code 2 = .ok (.iand, 1) := by decide +kernel
theorem dFR_isProcedure_3 : decode prog_2_method_4_code 3 = .ok (.ifCond .eq 7, 3) := by decide +kernel
theorem dFR_isProcedure_6 : decode prog_2_method_4_code 6 = .ok (.iconst 1, 1) := by decide +kernel
theorem dFR_isProcedure_7 : decode prog_2_method_4_code 7 = .ok (.goto 4, 3) := by decide +kernel
theorem dFR_isProcedure_10 : decode prog_2_method_4_code 10 = .ok (.iconst 0, 1) := by decide +kernel
theorem dFR_isProcedure_11 : decode prog_2_method_4_code 11 = .ok (.ireturn, 1) := by decide +kernel
theorem dFR_byteAt_0 : decode prog_2_method_7_code 0 = .ok (.aload_n 0, 1) := by decide +kernel
theorem dFR_byteAt_1 : decode prog_2_method_7_code 1 = .ok (.getfield 9, 3) := by decide +kernel
theorem dFR_byteAt_4 : decode prog_2_method_7_code 4 = .ok (.iload_n 1, 1) := by decide +kernel
theorem dFR_byteAt_5 : decode prog_2_method_7_code 5 = .ok (.iload_n 2, 1) := by decide +kernel
theorem dFR_byteAt_6 : decode prog_2_method_7_code 6 = .ok (.ldc 33, 2) := by decide +kernel
theorem dFR_byteAt_8 : decode prog_2_method_7_code 8 = .ok (.iand, 1) := by decide +kernel
theorem dFR_byteAt_9 : decode prog_2_method_7_code 9 = .ok (.iconst 2, 1) := by decide +kernel
theorem dFR_byteAt_10 : decode prog_2_method_7_code 10 = .ok (.idiv, 1) := by decide +kernel
theorem dFR_byteAt_11 : decode prog_2_method_7_code 11 = .ok (.iadd, 1) := by decide +kernel
theorem dFR_byteAt_12 : decode prog_2_method_7_code 12 = .ok (.invokevirtual 15, 3) := by decide +kernel
theorem dFR_byteAt_15 : decode prog_2_method_7_code 15 = .ok (.istore_n 3, 1) := by decide +kernel
theorem dFR_byteAt_16 : decode prog_2_method_7_code 16 = .ok (.iload_n 2, 1) := by decide +kernel
theorem dFR_byteAt_17 : decode prog_2_method_7_code 17 = .ok (.iconst 1, 1) := by decide +kernel
theorem dFR_byteAt_18 : decode prog_2_method_7_code 18 = .ok (.iand, 1) := by decide +kernel
theorem dFR_byteAt_19 : decode prog_2_method_7_code 19 = .ok (.ifCond .ne 10, 3) := by decide +kernel
theorem dFR_byteAt_22 : decode prog_2_method_7_code 22 = .ok (.iload_n 3, 1) := by decide +kernel
theorem dFR_byteAt_23 : decode prog_2_method_7_code 23 = .ok (.bipush 8, 2) := by decide +kernel
theorem dFR_byteAt_25 : decode prog_2_method_7_code 25 = .ok (.ishr, 1) := by decide +kernel
theorem dFR_byteAt_26 : decode prog_2_method_7_code 26 = .ok (.goto 8, 3) := by decide +kernel
theorem dFR_byteAt_29 : decode prog_2_method_7_code 29 = .ok (.iload_n 3, 1) := by decide +kernel
theorem dFR_byteAt_30 : decode prog_2_method_7_code 30 = .ok (.sipush 255, 3) := by decide +kernel
theorem dFR_byteAt_33 : decode prog_2_method_7_code 33 = .ok (.iand, 1) := by decide +kernel
theorem dFR_byteAt_34 : decode prog_2_method_7_code 34 = .ok (.ireturn, 1) := by decide +kernel
theorem dME_write_0 : decode prog_4_method_20_code 0 = .ok (.iload_n 1, 1) := by decide +kernel
theorem dME_write_1 : decode prog_4_method_20_code 1 = .ok (.bipush 8, 2) := by decide +kernel
theorem dME_write_3 : decode prog_4_method_20_code 3 = .ok (.ishr, 1) := by decide +kernel
theorem dME_write_4 : decode prog_4_method_20_code 4 = .ok (.bipush 15, 2) := by decide +kernel
theorem dME_write_6 : decode prog_4_method_20_code 6 = .ok (.iand, 1) := by decide +kernel
theorem dME_write_7 : decode prog_4_method_20_code 7 = .ok (.istore_n 3, 1) := by decide +kernel
theorem dME_write_8 : decode prog_4_method_20_code 8 = .ok (.aload_n 0, 1) := by decide +kernel
theorem dME_write_9 : decode prog_4_method_20_code 9 = .ok (.getfield 15, 3) := by decide +kernel
theorem dME_write_12 : decode prog_4_method_20_code 12 = .ok (.iload_n 3, 1) := by decide +kernel
theorem dME_write_13 : decode prog_4_method_20_code 13 = .ok (.iaload, 1) := by decide +kernel
theorem dME_write_14 : decode prog_4_method_20_code 14 = .ok (.istore 4, 2) := by decide +kernel
theorem dME_write_16 : decode prog_4_method_20_code 16 = .ok (.aload_n 0, 1) := by decide +kernel
theorem dME_write_17 : decode prog_4_method_20_code 17 = .ok (.getfield 44, 3) := by decide +kernel
theorem dME_write_20 : decode prog_4_method_20_code 20 = .ok (.ifCond .ne 17, 3) := by decide +kernel
theorem dME_write_23 : decode prog_4_method_20_code 23 = .ok (.iload 4, 2) := by decide +kernel
theorem dME_write_25 : decode prog_4_method_20_code 25 = .ok (.iconst (-1), 1) := by decide +kernel
theorem dME_write_26 : decode prog_4_method_20_code 26 = .ok (.if_icmp .ne 11, 3) := by decide +kernel
theorem dME_write_29 : decode prog_4_method_20_code 29 = .ok (.aload_n 0, 1) := by decide +kernel
theorem dME_write_30 : decode prog_4_method_20_code 30 = .ok (.iconst 1, 1) := by decide +kernel
theorem dME_write_31 : decode prog_4_method_20_code 31 = .ok (.putfield 44, 3) := by decide +kernel
theorem dME_write_34 : decode prog_4_method_20_code 34 = .ok (.goto 24, 3) := by decide +kernel
theorem dME_write_37 : decode prog_4_method_20_code 37 = .ok (.aload_n 0, 1) := by decide +kernel
theorem dME_write_38 : decode prog_4_method_20_code 38 = .ok (.getfield 44, 3) := by decide +kernel
theorem dME_write_41 : decode prog_4_method_20_code 41 = .ok (.ifCond .ne 17, 3) := by decide +kernel
theorem dME_write_44 : decode prog_4_method_20_code 44 = .ok (.aload_n 0, 1) := by decide +kernel
theorem dME_write_45 : decode prog_4_method_20_code 45 = .ok (.getfield 18, 3) := by decide +kernel
theorem dME_write_48 : decode prog_4_method_20_code 48 = .ok (.iload_n 3, 1) := by decide +kernel
theorem dME_write_49 : decode prog_4_method_20_code 49 = .ok (.baload, 1) := by decide +kernel
theorem dME_write_50 : decode prog_4_method_20_code 50 = .ok (.ifCond .eq 8, 3) := by decide +kernel
theorem dME_write_53 : decode prog_4_method_20_code 53 = .ok (.aload_n 0, 1) := by decide +kernel
theorem dME_write_54 : decode prog_4_method_20_code 54 = .ok (.iconst 2, 1) := by decide +kernel
theorem dME_write_55 : decode prog_4_method_20_code 55 = .ok (.putfield 44, 3) := by decide +kernel
theorem dME_write_58 : decode prog_4_method_20_code 58 = .ok (.aload_n 0, 1) := by decide +kernel
theorem dME_write_59 : decode prog_4_method_20_code 59 = .ok (.getfield 44, 3) := by decide +kernel
theorem dME_write_62 : decode prog_4_method_20_code 62 = .ok (.ifCond .ne 12, 3) := by decide +kernel
theorem dME_write_65 : decode prog_4_method_20_code 65 = .ok (.aload_n 0, 1) := by decide +kernel
theorem dME_write_66 : decode prog_4_method_20_code 66 = .ok (.getfield 40, 3) := by decide +kernel
theorem dME_write_69 : decode prog_4_method_20_code 69 = .ok (.bipush 16, 2) := by decide +kernel
theorem dME_write_71 : decode prog_4_method_20_code 71 = .ok (.if_icmp .lt 4, 3) := by decide +kernel
theorem dME_write_74 : decode prog_4_method_20_code 74 = .ok (.return_, 1) := by decide +kernel
theorem dME_write_75 : decode prog_4_method_20_code 75 = .ok (.iload 4, 2) := by decide +kernel
theorem dME_write_77 : decode prog_4_method_20_code 77 = .ok (.sipush 256, 3) := by decide +kernel
theorem dME_write_80 : decode prog_4_method_20_code 80 = .ok (.imul, 1) := by decide +kernel
theorem dME_write_81 : decode prog_4_method_20_code 81 = .ok (.iload_n 1, 1) := by decide +kernel
theorem dME_write_82 : decode prog_4_method_20_code 82 = .ok (.sipush 255, 3) := by decide +kernel
theorem dME_write_85 : decode prog_4_method_20_code 85 = .ok (.iand, 1) := by decide +kernel
theorem dME_write_86 : decode prog_4_method_20_code 86 = .ok (.iadd, 1) := by decide +kernel
theorem dME_write_87 : decode prog_4_method_20_code 87 = .ok (.istore 5, 2) := by decide +kernel
theorem dME_write_89 : decode prog_4_method_20_code 89 = .ok (.aload_n 0, 1) := by decide +kernel
theorem dME_write_90 : decode prog_4_method_20_code 90 = .ok (.getfield 25, 3) := by decide +kernel
theorem dME_write_93 : decode prog_4_method_20_code 93 = .ok (.aload_n 0, 1) := by decide +kernel
theorem dME_write_94 : decode prog_4_method_20_code 94 = .ok (.getfield 40, 3) := by decide +kernel
theorem dME_write_97 : decode prog_4_method_20_code 97 = .ok (.iload 5, 2) := by decide +kernel
theorem dME_write_99 : decode prog_4_method_20_code 99 = .ok (.iastore, 1) := by decide +kernel
theorem dME_write_100 : decode prog_4_method_20_code 100 = .ok (.aload_n 0, 1) := by decide +kernel
theorem dME_write_101 : decode prog_4_method_20_code 101 = .ok (.getfield 28, 3) := by decide +kernel
theorem dME_write_104 : decode prog_4_method_20_code 104 = .ok (.aload_n 0, 1) := by decide +kernel
theorem dME_write_105 : decode prog_4_method_20_code 105 = .ok (.getfield 40, 3) := by decide +kernel
theorem dME_write_108 : decode prog_4_method_20_code 108 = .ok (.aload_n 0, 1) := by decide +kernel
theorem dME_write_109 : decode prog_4_method_20_code 109 = .ok (.getfield 11, 3) := by decide +kernel
theorem dME_write_112 : decode prog_4_method_20_code 112 = .ok (.iload 5, 2) := by decide +kernel
theorem dME_write_114 : decode prog_4_method_20_code 114 = .ok (.iaload, 1) := by decide +kernel
theorem dME_write_115 : decode prog_4_method_20_code 115 = .ok (.iastore, 1) := by decide +kernel
theorem dME_write_116 : decode prog_4_method_20_code 116 = .ok (.aload_n 0, 1) := by decide +kernel
theorem dME_write_117 : decode prog_4_method_20_code 117 = .ok (.dup, 1) := by decide +kernel
theorem dME_write_118 : decode prog_4_method_20_code 118 = .ok (.getfield 40, 3) := by decide +kernel
theorem dME_write_121 : decode prog_4_method_20_code 121 = .ok (.iconst 1, 1) := by decide +kernel
theorem dME_write_122 : decode prog_4_method_20_code 122 = .ok (.iadd, 1) := by decide +kernel
theorem dME_write_123 : decode prog_4_method_20_code 123 = .ok (.putfield 40, 3) := by decide +kernel
theorem dME_write_126 : decode prog_4_method_20_code 126 = .ok (.aload_n 0, 1) := by decide +kernel
theorem dME_write_127 : decode prog_4_method_20_code 127 = .ok (.getfield 22, 3) := by decide +kernel
theorem dME_write_130 : decode prog_4_method_20_code 130 = .ok (.iload 4, 2) := by decide +kernel
theorem dME_write_132 : decode prog_4_method_20_code 132 = .ok (.dup2, 1) := by decide +kernel
theorem dME_write_133 : decode prog_4_method_20_code 133 = .ok (.iaload, 1) := by decide +kernel
theorem dME_write_134 : decode prog_4_method_20_code 134 = .ok (.iconst 3, 1) := by decide +kernel
theorem dME_write_135 : decode prog_4_method_20_code 135 = .ok (.ior, 1) := by decide +kernel
theorem dME_write_136 : decode prog_4_method_20_code 136 = .ok (.iastore, 1) := by decide +kernel
theorem dME_write_137 : decode prog_4_method_20_code 137 = .ok (.aload_n 0, 1) := by decide +kernel
theorem dME_write_138 : decode prog_4_method_20_code 138 = .ok (.getfield 11, 3) := by decide +kernel
theorem dME_write_141 : decode prog_4_method_20_code 141 = .ok (.iload 5, 2) := by decide +kernel
theorem dME_write_143 : decode prog_4_method_20_code 143 = .ok (.iload_n 2, 1) := by decide +kernel
theorem dME_write_144 : decode prog_4_method_20_code 144 = .ok (.ldc 31, 2) := by decide +kernel
theorem dME_write_146 : decode prog_4_method_20_code 146 = .ok (.iand, 1) := by decide +kernel
theorem dME_write_147 : decode prog_4_method_20_code 147 = .ok (.iastore, 1) := by decide +kernel
theorem dME_write_148 : decode prog_4_method_20_code 148 = .ok (.return_, 1) := by decide +kernel
theorem dFR_take_0 : decode prog_2_method_2_code 0 = .ok (.iconst 0, 1) := by decide +kernel
theorem dFR_take_1 : decode prog_2_method_2_code 1 = .ok (.istore_n 2, 1) := by decide +kernel
theorem dFR_take_2 : decode prog_2_method_2_code 2 = .ok (.iload_n 1, 1) := by decide +kernel
