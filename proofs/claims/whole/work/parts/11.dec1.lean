theorem dFR_take_3 : decode prog_2_method_2_code 3 = .ok (.istore_n 3, 1) := by decide +kernel
theorem dFR_take_4 : decode prog_2_method_2_code 4 = .ok (.iload_n 1, 1) := by decide +kernel
theorem dFR_take_5 : decode prog_2_method_2_code 5 = .ok (.istore 4, 2) := by decide +kernel
theorem dFR_take_7 : decode prog_2_method_2_code 7 = .ok (.iload 4, 2) := by decide +kernel
theorem dFR_take_9 : decode prog_2_method_2_code 9 = .ok (.bipush 8, 2) := by decide +kernel
theorem dFR_take_11 : decode prog_2_method_2_code 11 = .ok (.if_icmp .ge 29, 3) := by decide +kernel
theorem dFR_take_14 : decode prog_2_method_2_code 14 = .ok (.iload_n 2, 1) := by decide +kernel
theorem dFR_take_15 : decode prog_2_method_2_code 15 = .ok (.ifCond .ne 25, 3) := by decide +kernel
theorem dFR_take_18 : decode prog_2_method_2_code 18 = .ok (.aload_n 0, 1) := by decide +kernel
theorem dFR_take_19 : decode prog_2_method_2_code 19 = .ok (.getfield 9, 3) := by decide +kernel
theorem dFR_take_22 : decode prog_2_method_2_code 22 = .ok (.bipush 16, 2) := by decide +kernel
theorem dFR_take_24 : decode prog_2_method_2_code 24 = .ok (.iload 4, 2) := by decide +kernel
theorem dFR_take_26 : decode prog_2_method_2_code 26 = .ok (.iadd, 1) := by decide +kernel
theorem dFR_take_27 : decode prog_2_method_2_code 27 = .ok (.invokevirtual 15, 3) := by decide +kernel
theorem dFR_take_30 : decode prog_2_method_2_code 30 = .ok (.istore_n 2, 1) := by decide +kernel
theorem dFR_take_31 : decode prog_2_method_2_code 31 = .ok (.iload 4, 2) := by decide +kernel
theorem dFR_take_33 : decode prog_2_method_2_code 33 = .ok (.istore_n 3, 1) := by decide +kernel
theorem dFR_take_34 : decode prog_2_method_2_code 34 = .ok (.iinc 4 1, 3) := by decide +kernel
theorem dFR_take_37 : decode prog_2_method_2_code 37 = .ok (.goto (-30), 3) := by decide +kernel
theorem dFR_take_40 : decode prog_2_method_2_code 40 = .ok (.iload_n 2, 1) := by decide +kernel
theorem dFR_take_41 : decode prog_2_method_2_code 41 = .ok (.ifCond .ne 13, 3) := by decide +kernel
theorem dFR_take_44 : decode prog_2_method_2_code 44 = .ok (.aload_n 0, 1) := by decide +kernel
theorem dFR_take_45 : decode prog_2_method_2_code 45 = .ok (.getfield 9, 3) := by decide +kernel
theorem dFR_take_48 : decode prog_2_method_2_code 48 = .ok (.iconst 3, 1) := by decide +kernel
theorem dFR_take_49 : decode prog_2_method_2_code 49 = .ok (.invokevirtual 21, 3) := by decide +kernel
theorem dFR_take_52 : decode prog_2_method_2_code 52 = .ok (.iconst 0, 1) := by decide +kernel
theorem dFR_take_53 : decode prog_2_method_2_code 53 = .ok (.ireturn, 1) := by decide +kernel
theorem dFR_take_54 : decode prog_2_method_2_code 54 = .ok (.aload_n 0, 1) := by decide +kernel
theorem dFR_take_55 : decode prog_2_method_2_code 55 = .ok (.getfield 9, 3) := by decide +kernel
theorem dFR_take_58 : decode prog_2_method_2_code 58 = .ok (.bipush 16, 2) := by decide +kernel
theorem dFR_take_60 : decode prog_2_method_2_code 60 = .ok (.iload_n 3, 1) := by decide +kernel
theorem dFR_take_61 : decode prog_2_method_2_code 61 = .ok (.iadd, 1) := by decide +kernel
theorem dFR_take_62 : decode prog_2_method_2_code 62 = .ok (.aload_n 0, 1) := by decide +kernel
theorem dFR_take_63 : decode prog_2_method_2_code 63 = .ok (.getfield 9, 3) := by decide +kernel
theorem dFR_take_66 : decode prog_2_method_2_code 66 = .ok (.iload_n 2, 1) := by decide +kernel
theorem dFR_take_67 : decode prog_2_method_2_code 67 = .ok (.invokevirtual 15, 3) := by decide +kernel
theorem dFR_take_70 : decode prog_2_method_2_code 70 = .ok (.invokevirtual 25, 3) := by decide +kernel
theorem dFR_take_73 : decode prog_2_method_2_code 73 = .ok (.aload_n 0, 1) := by decide +kernel
theorem dFR_take_74 : decode prog_2_method_2_code 74 = .ok (.getfield 9, 3) := by decide +kernel
theorem dFR_take_77 : decode prog_2_method_2_code 77 = .ok (.iload_n 2, 1) := by decide +kernel
theorem dFR_take_78 : decode prog_2_method_2_code 78 = .ok (.iconst 3, 1) := by decide +kernel
theorem dFR_take_79 : decode prog_2_method_2_code 79 = .ok (.iadd, 1) := by decide +kernel
theorem dFR_take_80 : decode prog_2_method_2_code 80 = .ok (.iload_n 3, 1) := by decide +kernel
theorem dFR_take_81 : decode prog_2_method_2_code 81 = .ok (.invokevirtual 25, 3) := by decide +kernel
theorem dFR_take_84 : decode prog_2_method_2_code 84 = .ok (.iload_n 2, 1) := by decide +kernel
theorem dFR_take_85 : decode prog_2_method_2_code 85 = .ok (.ireturn, 1) := by decide +kernel
theorem dFR_open_0 : decode prog_2_method_9_code 0 = .ok (.iload_n 1, 1) := by decide +kernel
theorem dFR_open_1 : decode prog_2_method_9_code 1 = .ok (.iconst 5, 1) := by decide +kernel
theorem dFR_open_2 : decode prog_2_method_9_code 2 = .ok (.ishr, 1) := by decide +kernel
theorem dFR_open_3 : decode prog_2_method_9_code 3 = .ok (.bipush 15, 2) := by decide +kernel
theorem dFR_open_5 : decode prog_2_method_9_code 5 = .ok (.iand, 1) := by decide +kernel
theorem dFR_open_6 : decode prog_2_method_9_code 6 = .ok (.istore_n 3, 1) := by decide +kernel
theorem dFR_open_7 : decode prog_2_method_9_code 7 = .ok (.aload_n 0, 1) := by decide +kernel
theorem dFR_open_8 : decode prog_2_method_9_code 8 = .ok (.getfield 9, 3) := by decide +kernel
theorem dFR_open_11 : decode prog_2_method_9_code 11 = .ok (.aload_n 0, 1) := by decide +kernel
theorem dFR_open_12 : decode prog_2_method_9_code 12 = .ok (.getfield 9, 3) := by decide +kernel
theorem dFR_open_15 : decode prog_2_method_9_code 15 = .ok (.bipush 32, 2) := by decide +kernel
theorem dFR_open_17 : decode prog_2_method_9_code 17 = .ok (.iload_n 3, 1) := by decide +kernel
theorem dFR_open_18 : decode prog_2_method_9_code 18 = .ok (.iadd, 1) := by decide +kernel
theorem dFR_open_19 : decode prog_2_method_9_code 19 = .ok (.invokevirtual 15, 3) := by decide +kernel
theorem dFR_open_22 : decode prog_2_method_9_code 22 = .ok (.invokevirtual 15, 3) := by decide +kernel
theorem dFR_open_25 : decode prog_2_method_9_code 25 = .ok (.istore 4, 2) := by decide +kernel
theorem dFR_open_27 : decode prog_2_method_9_code 27 = .ok (.aload_n 0, 1) := by decide +kernel
theorem dFR_open_28 : decode prog_2_method_9_code 28 = .ok (.getfield 9, 3) := by decide +kernel
theorem dFR_open_31 : decode prog_2_method_9_code 31 = .ok (.iload 4, 2) := by decide +kernel
theorem dFR_open_33 : decode prog_2_method_9_code 33 = .ok (.iload_n 1, 1) := by decide +kernel
theorem dFR_open_34 : decode prog_2_method_9_code 34 = .ok (.iconst 1, 1) := by decide +kernel
theorem dFR_open_35 : decode prog_2_method_9_code 35 = .ok (.ishr, 1) := by decide +kernel
theorem dFR_open_36 : decode prog_2_method_9_code 36 = .ok (.bipush 15, 2) := by decide +kernel
theorem dFR_open_38 : decode prog_2_method_9_code 38 = .ok (.iand, 1) := by decide +kernel
theorem dFR_open_39 : decode prog_2_method_9_code 39 = .ok (.iadd, 1) := by decide +kernel
theorem dFR_open_40 : decode prog_2_method_9_code 40 = .ok (.invokevirtual 15, 3) := by decide +kernel
theorem dFR_open_43 : decode prog_2_method_9_code 43 = .ok (.istore 5, 2) := by decide +kernel
theorem dFR_open_45 : decode prog_2_method_9_code 45 = .ok (.aload_n 0, 1) := by decide +kernel
theorem dFR_open_46 : decode prog_2_method_9_code 46 = .ok (.aload_n 0, 1) := by decide +kernel
theorem dFR_open_47 : decode prog_2_method_9_code 47 = .ok (.iload 4, 2) := by decide +kernel
theorem dFR_open_49 : decode prog_2_method_9_code 49 = .ok (.iload 5, 2) := by decide +kernel
theorem dFR_open_51 : decode prog_2_method_9_code 51 = .ok (.invokevirtual 34, 3) := by decide +kernel
theorem dFR_open_54 : decode prog_2_method_9_code 54 = .ok (.bipush 7, 2) := by decide +kernel
theorem dFR_open_56 : decode prog_2_method_9_code 56 = .ok (.iand, 1) := by decide +kernel
theorem dFR_open_57 : decode prog_2_method_9_code 57 = .ok (.invokevirtual 38, 3) := by decide +kernel
theorem dFR_open_60 : decode prog_2_method_9_code 60 = .ok (.istore 6, 2) := by decide +kernel
theorem dFR_open_62 : decode prog_2_method_9_code 62 = .ok (.aload_n 0, 1) := by decide +kernel
theorem dFR_open_63 : decode prog_2_method_9_code 63 = .ok (.getfield 9, 3) := by decide +kernel
theorem dFR_open_66 : decode prog_2_method_9_code 66 = .ok (.iload 6, 2) := by decide +kernel
theorem dFR_open_68 : decode prog_2_method_9_code 68 = .ok (.iconst 0, 1) := by decide +kernel
theorem dFR_open_69 : decode prog_2_method_9_code 69 = .ok (.iadd, 1) := by decide +kernel
theorem dFR_open_70 : decode prog_2_method_9_code 70 = .ok (.iload_n 2, 1) := by decide +kernel
theorem dFR_open_71 : decode prog_2_method_9_code 71 = .ok (.invokevirtual 25, 3) := by decide +kernel
theorem dFR_open_74 : decode prog_2_method_9_code 74 = .ok (.aload_n 0, 1) := by decide +kernel
theorem dFR_open_75 : decode prog_2_method_9_code 75 = .ok (.getfield 9, 3) := by decide +kernel
theorem dFR_open_78 : decode prog_2_method_9_code 78 = .ok (.iload 6, 2) := by decide +kernel
theorem dFR_open_80 : decode prog_2_method_9_code 80 = .ok (.iconst 1, 1) := by decide +kernel
theorem dFR_open_81 : decode prog_2_method_9_code 81 = .ok (.iadd, 1) := by decide +kernel
theorem dFR_open_82 : decode prog_2_method_9_code 82 = .ok (.iload_n 3, 1) := by decide +kernel
theorem dFR_open_83 : decode prog_2_method_9_code 83 = .ok (.invokevirtual 25, 3) := by decide +kernel
theorem dFR_open_86 : decode prog_2_method_9_code 86 = .ok (.aload_n 0, 1) := by decide +kernel
theorem dFR_open_87 : decode prog_2_method_9_code 87 = .ok (.getfield 9, 3) := by decide +kernel
theorem dFR_open_90 : decode prog_2_method_9_code 90 = .ok (.iload 6, 2) := by decide +kernel
theorem dFR_open_92 : decode prog_2_method_9_code 92 = .ok (.iconst 2, 1) := by decide +kernel
theorem dFR_open_93 : decode prog_2_method_9_code 93 = .ok (.iadd, 1) := by decide +kernel
theorem dFR_open_94 : decode prog_2_method_9_code 94 = .ok (.iload 5, 2) := by decide +kernel
theorem dFR_open_96 : decode prog_2_method_9_code 96 = .ok (.iconst 1, 1) := by decide +kernel
theorem dFR_open_97 : decode prog_2_method_9_code 97 = .ok (.iadd, 1) := by decide +kernel
theorem dFR_open_98 : decode prog_2_method_9_code 98 = .ok (.invokevirtual 25, 3) := by decide +kernel
theorem dFR_open_101 : decode prog_2_method_9_code 101 = .ok (.iload 6, 2) := by decide +kernel
theorem dFR_open_103 : decode prog_2_method_9_code 103 = .ok (.ireturn, 1) := by decide +kernel
theorem dPR_prepareChild_0 : decode prog_5_method_17_code 0 = .ok (.aload_n 0, 1) := by decide +kernel
theorem dPR_prepareChild_1 : decode prog_5_method_17_code 1 = .ok (.iload_n 2, 1) := by decide +kernel
theorem dPR_prepareChild_2 : decode prog_5_method_17_code 2 = .ok (.bipush 7, 2) := by decide +kernel
theorem dPR_prepareChild_4 : decode prog_5_method_17_code 4 = .ok (.iand, 1) := by decide +kernel
theorem dPR_prepareChild_5 : decode prog_5_method_17_code 5 = .ok (.putfield 68, 3) := by decide +kernel
theorem dPR_prepareChild_8 : decode prog_5_method_17_code 8 = .ok (.aload_n 0, 1) := by decide +kernel
theorem dPR_prepareChild_9 : decode prog_5_method_17_code 9 = .ok (.aload_n 0, 1) := by decide +kernel
theorem dPR_prepareChild_10 : decode prog_5_method_17_code 10 = .ok (.getfield 15, 3) := by decide +kernel
theorem dPR_prepareChild_13 : decode prog_5_method_17_code 13 = .ok (.invokevirtual 253, 3) := by decide +kernel
theorem dPR_prepareChild_16 : decode prog_5_method_17_code 16 = .ok (.putfield 57, 3) := by decide +kernel
theorem dPR_prepareChild_19 : decode prog_5_method_17_code 19 = .ok (.aload_n 0, 1) := by decide +kernel
theorem dPR_prepareChild_20 : decode prog_5_method_17_code 20 = .ok (.getfield 57, 3) := by decide +kernel
theorem dPR_prepareChild_23 : decode prog_5_method_17_code 23 = .ok (.ifnonnull 13, 3) := by decide +kernel
theorem dPR_prepareChild_26 : decode prog_5_method_17_code 26 = .ok (.aload_n 0, 1) := by decide +kernel
theorem dPR_prepareChild_27 : decode prog_5_method_17_code 27 = .ok (.getfield 9, 3) := by decide +kernel
theorem dPR_prepareChild_30 : decode prog_5_method_17_code 30 = .ok (.bipush 8, 2) := by decide +kernel
theorem dPR_prepareChild_32 : decode prog_5_method_17_code 32 = .ok (.invokevirtual 153, 3) := by decide +kernel
theorem dPR_prepareChild_35 : decode prog_5_method_17_code 35 = .ok (.return_, 1) := by decide +kernel
theorem dPR_prepareChild_36 : decode prog_5_method_17_code 36 = .ok (.aload_n 0, 1) := by decide +kernel
theorem dPR_prepareChild_37 : decode prog_5_method_17_code 37 = .ok (.getfield 24, 3) := by decide +kernel
theorem dPR_prepareChild_40 : decode prog_5_method_17_code 40 = .ok (.iload_n 1, 1) := by decide +kernel
theorem dPR_prepareChild_41 : decode prog_5_method_17_code 41 = .ok (.invokevirtual 243, 3) := by decide +kernel
theorem dPR_prepareChild_44 : decode prog_5_method_17_code 44 = .ok (.istore_n 3, 1) := by decide +kernel
theorem dPR_prepareChild_45 : decode prog_5_method_17_code 45 = .ok (.iload_n 3, 1) := by decide +kernel
theorem dPR_prepareChild_46 : decode prog_5_method_17_code 46 = .ok (.invokestatic 246, 3) := by decide +kernel
theorem dPR_prepareChild_49 : decode prog_5_method_17_code 49 = .ok (.ifCond .eq 19, 3) := by decide +kernel
theorem dPR_prepareChild_52 : decode prog_5_method_17_code 52 = .ok (.aload_n 0, 1) := by decide +kernel
theorem dPR_prepareChild_53 : decode prog_5_method_17_code 53 = .ok (.aload_n 0, 1) := by decide +kernel
theorem dPR_prepareChild_54 : decode prog_5_method_17_code 54 = .ok (.getfield 24, 3) := by decide +kernel
theorem dPR_prepareChild_57 : decode prog_5_method_17_code 57 = .ok (.iload_n 3, 1) := by decide +kernel
theorem dPR_prepareChild_58 : decode prog_5_method_17_code 58 = .ok (.iconst 0, 1) := by decide +kernel
theorem dPR_prepareChild_59 : decode prog_5_method_17_code 59 = .ok (.invokevirtual 250, 3) := by decide +kernel
theorem dPR_prepareChild_62 : decode prog_5_method_17_code 62 = .ok (.putfield 64, 3) := by decide +kernel
theorem dPR_prepareChild_65 : decode prog_5_method_17_code 65 = .ok (.goto 12, 3) := by decide +kernel
theorem dPR_prepareChild_68 : decode prog_5_method_17_code 68 = .ok (.aload_n 0, 1) := by decide +kernel
theorem dPR_prepareChild_69 : decode prog_5_method_17_code 69 = .ok (.getfield 9, 3) := by decide +kernel
theorem dPR_prepareChild_72 : decode prog_5_method_17_code 72 = .ok (.bipush 8, 2) := by decide +kernel
theorem dPR_prepareChild_74 : decode prog_5_method_17_code 74 = .ok (.invokevirtual 153, 3) := by decide +kernel
theorem dPR_prepareChild_77 : decode prog_5_method_17_code 77 = .ok (.return_, 1) := by decide +kernel
theorem dME_hasFailed_0 : decode prog_4_method_16_code 0 = .ok (.aload_n 0, 1) := by decide +kernel
theorem dME_hasFailed_1 : decode prog_4_method_16_code 1 = .ok (.getfield 44, 3) := by decide +kernel
theorem dME_hasFailed_4 : decode prog_4_method_16_code 4 = .ok (.ifCond .eq 7, 3) := by decide +kernel
theorem dME_hasFailed_7 : decode prog_4_method_16_code 7 = .ok (.iconst 1, 1) := by decide +kernel
theorem dME_hasFailed_8 : decode prog_4_method_16_code 8 = .ok (.goto 4, 3) := by decide +kernel
theorem dME_hasFailed_11 : decode prog_4_method_16_code 11 = .ok (.iconst 0, 1) := by decide +kernel
theorem dME_hasFailed_12 : decode prog_4_method_16_code 12 = .ok (.ireturn, 1) := by decide +kernel
theorem dME_undo_0 : decode prog_4_method_21_code 0 = .ok (.aload_n 0, 1) := by decide +kernel
theorem dME_undo_1 : decode prog_4_method_21_code 1 = .ok (.getfield 40, 3) := by decide +kernel
theorem dME_undo_4 : decode prog_4_method_21_code 4 = .ok (.iconst 1, 1) := by decide +kernel
theorem dME_undo_5 : decode prog_4_method_21_code 5 = .ok (.isub, 1) := by decide +kernel
theorem dME_undo_6 : decode prog_4_method_21_code 6 = .ok (.istore_n 1, 1) := by decide +kernel
theorem dME_undo_7 : decode prog_4_method_21_code 7 = .ok (.iload_n 1, 1) := by decide +kernel
theorem dME_undo_8 : decode prog_4_method_21_code 8 = .ok (.ifCond .lt 26, 3) := by decide +kernel
theorem dME_undo_11 : decode prog_4_method_21_code 11 = .ok (.aload_n 0, 1) := by decide +kernel
theorem dME_undo_12 : decode prog_4_method_21_code 12 = .ok (.getfield 11, 3) := by decide +kernel
theorem dME_undo_15 : decode prog_4_method_21_code 15 = .ok (.aload_n 0, 1) := by decide +kernel
theorem dME_undo_16 : decode prog_4_method_21_code 16 = .ok (.getfield 25, 3) := by decide +kernel
theorem dME_undo_19 : decode prog_4_method_21_code 19 = .ok (.iload_n 1, 1) := by decide +kernel
theorem dME_undo_20 : decode prog_4_method_21_code 20 = .ok (.iaload, 1) := by decide +kernel
theorem dME_undo_21 : decode prog_4_method_21_code 21 = .ok (.aload_n 0, 1) := by decide +kernel
theorem dME_undo_22 : decode prog_4_method_21_code 22 = .ok (.getfield 28, 3) := by decide +kernel
theorem dME_undo_25 : decode prog_4_method_21_code 25 = .ok (.iload_n 1, 1) := by decide +kernel
theorem dME_undo_26 : decode prog_4_method_21_code 26 = .ok (.iaload, 1) := by decide +kernel
theorem dME_undo_27 : decode prog_4_method_21_code 27 = .ok (.iastore, 1) := by decide +kernel
theorem dME_undo_28 : decode prog_4_method_21_code 28 = .ok (.iinc 1 (-1), 3) := by decide +kernel
theorem dME_undo_31 : decode prog_4_method_21_code 31 = .ok (.goto (-24), 3) := by decide +kernel
theorem dME_undo_34 : decode prog_4_method_21_code 34 = .ok (.aload_n 0, 1) := by decide +kernel
theorem dME_undo_35 : decode prog_4_method_21_code 35 = .ok (.iconst 0, 1) := by decide +kernel
theorem dME_undo_36 : decode prog_4_method_21_code 36 = .ok (.putfield 40, 3) := by decide +kernel
theorem dME_undo_39 : decode prog_4_method_21_code 39 = .ok (.return_, 1) := by decide +kernel
theorem dRO_nextChange_0 : decode prog_6_method_7_code 0 = .ok (.aload_n 0, 1) := by decide +kernel
theorem dRO_nextChange_1 : decode prog_6_method_7_code 1 = .ok (.dup, 1) := by decide +kernel
theorem dRO_nextChange_2 : decode prog_6_method_7_code 2 = .ok (.getfield 38, 3) := by decide +kernel
theorem dRO_nextChange_5 : decode prog_6_method_7_code 5 = .ok (.iconst 1, 1) := by decide +kernel
theorem dRO_nextChange_6 : decode prog_6_method_7_code 6 = .ok (.iadd, 1) := by decide +kernel
theorem dRO_nextChange_7 : decode prog_6_method_7_code 7 = .ok (.putfield 38, 3) := by decide +kernel
theorem dRO_nextChange_10 : decode prog_6_method_7_code 10 = .ok (.aload_n 0, 1) := by decide +kernel
theorem dRO_nextChange_11 : decode prog_6_method_7_code 11 = .ok (.getfield 38, 3) := by decide +kernel
theorem dRO_nextChange_14 : decode prog_6_method_7_code 14 = .ok (.ireturn, 1) := by decide +kernel
theorem dTA_enter_0 : decode prog_7_method_3_code 0 = .ok (.aload_n 0, 1) := by decide +kernel
theorem dTA_enter_1 : decode prog_7_method_3_code 1 = .ok (.iload_n 1, 1) := by decide +kernel
theorem dTA_enter_2 : decode prog_7_method_3_code 2 = .ok (.putfield 35, 3) := by decide +kernel
theorem dTA_enter_5 : decode prog_7_method_3_code 5 = .ok (.aload_n 0, 1) := by decide +kernel
theorem dTA_enter_6 : decode prog_7_method_3_code 6 = .ok (.iload_n 2, 1) := by decide +kernel
theorem dTA_enter_7 : decode prog_7_method_3_code 7 = .ok (.putfield 38, 3) := by decide +kernel
theorem dTA_enter_10 : decode prog_7_method_3_code 10 = .ok (.aload_n 0, 1) := by decide +kernel
theorem dTA_enter_11 : decode prog_7_method_3_code 11 = .ok (.iconst (-1), 1) := by decide +kernel
theorem dTA_enter_12 : decode prog_7_method_3_code 12 = .ok (.putfield 19, 3) := by decide +kernel
theorem dTA_enter_15 : decode prog_7_method_3_code 15 = .ok (.aload_n 0, 1) := by decide +kernel
theorem dTA_enter_16 : decode prog_7_method_3_code 16 = .ok (.iconst 0, 1) := by decide +kernel
theorem dTA_enter_17 : decode prog_7_method_3_code 17 = .ok (.putfield 41, 3) := by decide +kernel
theorem dTA_enter_20 : decode prog_7_method_3_code 20 = .ok (.aload_n 0, 1) := by decide +kernel
theorem dTA_enter_21 : decode prog_7_method_3_code 21 = .ok (.iconst 0, 1) := by decide +kernel
theorem dTA_enter_22 : decode prog_7_method_3_code 22 = .ok (.putfield 44, 3) := by decide +kernel
theorem dTA_enter_25 : decode prog_7_method_3_code 25 = .ok (.return_, 1) := by decide +kernel
theorem dRO_makeReady_0 : decode prog_6_method_8_code 0 = .ok (.aload_n 1, 1) := by decide +kernel
theorem dRO_makeReady_1 : decode prog_6_method_8_code 1 = .ok (.iconst 1, 1) := by decide +kernel
theorem dRO_makeReady_2 : decode prog_6_method_8_code 2 = .ok (.aload_n 0, 1) := by decide +kernel
theorem dRO_makeReady_3 : decode prog_6_method_8_code 3 = .ok (.invokevirtual 41, 3) := by decide +kernel
theorem dRO_makeReady_6 : decode prog_6_method_8_code 6 = .ok (.invokevirtual 45, 3) := by decide +kernel
theorem dRO_makeReady_9 : decode prog_6_method_8_code 9 = .ok (.return_, 1) := by decide +kernel
theorem dRO_begin_0 : decode prog_6_method_9_code 0 = .ok (.aload_n 1, 1) := by decide +kernel
theorem dRO_begin_1 : decode prog_6_method_9_code 1 = .ok (.iload_n 2, 1) := by decide +kernel
theorem dRO_begin_2 : decode prog_6_method_9_code 2 = .ok (.putfield 49, 3) := by decide +kernel
theorem dRO_begin_5 : decode prog_6_method_9_code 5 = .ok (.aload_n 1, 1) := by decide +kernel
theorem dRO_begin_6 : decode prog_6_method_9_code 6 = .ok (.iload_n 3, 1) := by decide +kernel
theorem dRO_begin_7 : decode prog_6_method_9_code 7 = .ok (.putfield 52, 3) := by decide +kernel
theorem dRO_begin_10 : decode prog_6_method_9_code 10 = .ok (.aload_n 1, 1) := by decide +kernel
theorem dRO_begin_11 : decode prog_6_method_9_code 11 = .ok (.iconst 0, 1) := by decide +kernel
theorem dRO_begin_12 : decode prog_6_method_9_code 12 = .ok (.putfield 55, 3) := by decide +kernel
theorem dRO_begin_15 : decode prog_6_method_9_code 15 = .ok (.aload_n 0, 1) := by decide +kernel
theorem dRO_begin_16 : decode prog_6_method_9_code 16 = .ok (.aload_n 1, 1) := by decide +kernel
theorem dRO_begin_17 : decode prog_6_method_9_code 17 = .ok (.invokevirtual 58, 3) := by decide +kernel
theorem dRO_begin_20 : decode prog_6_method_9_code 20 = .ok (.return_, 1) := by decide +kernel
theorem dPR_launch_0 : decode prog_5_method_2_code 0 = .ok (.aload_n 0, 1) := by decide +kernel
theorem dPR_launch_1 : decode prog_5_method_2_code 1 = .ok (.getfield 9, 3) := by decide +kernel
theorem dPR_launch_4 : decode prog_5_method_2_code 4 = .ok (.invokevirtual 44, 3) := by decide +kernel
theorem dPR_launch_7 : decode prog_5_method_2_code 7 = .ok (.aload_n 0, 1) := by decide +kernel
theorem dPR_launch_8 : decode prog_5_method_2_code 8 = .ok (.iload_n 1, 1) := by decide +kernel
theorem dPR_launch_9 : decode prog_5_method_2_code 9 = .ok (.iload_n 2, 1) := by decide +kernel
theorem dPR_launch_10 : decode prog_5_method_2_code 10 = .ok (.invokevirtual 49, 3) := by decide +kernel
theorem dPR_launch_13 : decode prog_5_method_2_code 13 = .ok (.aload_n 0, 1) := by decide +kernel
theorem dPR_launch_14 : decode prog_5_method_2_code 14 = .ok (.getfield 9, 3) := by decide +kernel
theorem dPR_launch_17 : decode prog_5_method_2_code 17 = .ok (.invokevirtual 53, 3) := by decide +kernel
theorem dPR_launch_20 : decode prog_5_method_2_code 20 = .ok (.ifCond .ne 10, 3) := by decide +kernel
theorem dPR_launch_23 : decode prog_5_method_2_code 23 = .ok (.aload_n 0, 1) := by decide +kernel
theorem dPR_launch_24 : decode prog_5_method_2_code 24 = .ok (.getfield 57, 3) := by decide +kernel
theorem dPR_launch_27 : decode prog_5_method_2_code 27 = .ok (.ifnonnull 12, 3) := by decide +kernel
theorem dPR_launch_30 : decode prog_5_method_2_code 30 = .ok (.aload_n 0, 1) := by decide +kernel
theorem dPR_launch_31 : decode prog_5_method_2_code 31 = .ok (.getfield 9, 3) := by decide +kernel
theorem dPR_launch_34 : decode prog_5_method_2_code 34 = .ok (.invokevirtual 61, 3) := by decide +kernel
theorem dPR_launch_37 : decode prog_5_method_2_code 37 = .ok (.iconst (-1), 1) := by decide +kernel
theorem dPR_launch_38 : decode prog_5_method_2_code 38 = .ok (.ireturn, 1) := by decide +kernel
theorem dPR_launch_39 : decode prog_5_method_2_code 39 = .ok (.aload_n 0, 1) := by decide +kernel
theorem dPR_launch_40 : decode prog_5_method_2_code 40 = .ok (.getfield 15, 3) := by decide +kernel
theorem dPR_launch_43 : decode prog_5_method_2_code 43 = .ok (.aload_n 0, 1) := by decide +kernel
theorem dPR_launch_44 : decode prog_5_method_2_code 44 = .ok (.getfield 57, 3) := by decide +kernel
theorem dPR_launch_47 : decode prog_5_method_2_code 47 = .ok (.aload_n 0, 1) := by decide +kernel
theorem dPR_launch_48 : decode prog_5_method_2_code 48 = .ok (.getfield 64, 3) := by decide +kernel
theorem dPR_launch_51 : decode prog_5_method_2_code 51 = .ok (.aload_n 0, 1) := by decide +kernel
theorem dPR_launch_52 : decode prog_5_method_2_code 52 = .ok (.getfield 68, 3) := by decide +kernel
theorem dPR_launch_55 : decode prog_5_method_2_code 55 = .ok (.invokevirtual 71, 3) := by decide +kernel
theorem dPR_launch_58 : decode prog_5_method_2_code 58 = .ok (.aload_n 0, 1) := by decide +kernel
theorem dPR_launch_59 : decode prog_5_method_2_code 59 = .ok (.getfield 57, 3) := by decide +kernel
theorem dPR_launch_62 : decode prog_5_method_2_code 62 = .ok (.getfield 76, 3) := by decide +kernel
theorem dPR_launch_65 : decode prog_5_method_2_code 65 = .ok (.ireturn, 1) := by decide +kernel
theorem dWS_loadFrom_0 : decode prog_8_method_2_code 0 = .ok (.aload_n 0, 1) := by decide +kernel
theorem dWS_loadFrom_1 : decode prog_8_method_2_code 1 = .ok (.aload_n 1, 1) := by decide +kernel
theorem dWS_loadFrom_2 : decode prog_8_method_2_code 2 = .ok (.getfield 21, 3) := by decide +kernel
theorem dWS_loadFrom_5 : decode prog_8_method_2_code 5 = .ok (.putfield 25, 3) := by decide +kernel
theorem dWS_loadFrom_8 : decode prog_8_method_2_code 8 = .ok (.iconst 0, 1) := by decide +kernel
theorem dWS_loadFrom_9 : decode prog_8_method_2_code 9 = .ok (.istore_n 2, 1) := by decide +kernel
theorem dWS_loadFrom_10 : decode prog_8_method_2_code 10 = .ok (.iload_n 2, 1) := by decide +kernel
theorem dWS_loadFrom_11 : decode prog_8_method_2_code 11 = .ok (.aload_n 0, 1) := by decide +kernel
theorem dWS_loadFrom_12 : decode prog_8_method_2_code 12 = .ok (.getfield 25, 3) := by decide +kernel
theorem dWS_loadFrom_15 : decode prog_8_method_2_code 15 = .ok (.if_icmp .ge 21, 3) := by decide +kernel
theorem dWS_loadFrom_18 : decode prog_8_method_2_code 18 = .ok (.aload_n 0, 1) := by decide +kernel
theorem dWS_loadFrom_19 : decode prog_8_method_2_code 19 = .ok (.getfield 13, 3) := by decide +kernel
theorem dWS_loadFrom_22 : decode prog_8_method_2_code 22 = .ok (.iload_n 2, 1) := by decide +kernel
theorem dWS_loadFrom_23 : decode prog_8_method_2_code 23 = .ok (.aload_n 1, 1) := by decide +kernel
theorem dWS_loadFrom_24 : decode prog_8_method_2_code 24 = .ok (.getfield 26, 3) := by decide +kernel
theorem dWS_loadFrom_27 : decode prog_8_method_2_code 27 = .ok (.iload_n 2, 1) := by decide +kernel
theorem dWS_loadFrom_28 : decode prog_8_method_2_code 28 = .ok (.iaload, 1) := by decide +kernel
theorem dWS_loadFrom_29 : decode prog_8_method_2_code 29 = .ok (.iastore, 1) := by decide +kernel
theorem dWS_loadFrom_30 : decode prog_8_method_2_code 30 = .ok (.iinc 2 1, 3) := by decide +kernel
theorem dWS_loadFrom_33 : decode prog_8_method_2_code 33 = .ok (.goto (-23), 3) := by decide +kernel
theorem dWS_loadFrom_36 : decode prog_8_method_2_code 36 = .ok (.return_, 1) := by decide +kernel
theorem dPR_beginWith_0 : decode prog_5_method_4_code 0 = .ok (.aload_n 0, 1) := by decide +kernel
theorem dPR_beginWith_1 : decode prog_5_method_4_code 1 = .ok (.getfield 9, 3) := by decide +kernel
theorem dPR_beginWith_4 : decode prog_5_method_4_code 4 = .ok (.invokevirtual 44, 3) := by decide +kernel
theorem dPR_beginWith_7 : decode prog_5_method_4_code 7 = .ok (.aload_n 0, 1) := by decide +kernel
theorem dPR_beginWith_8 : decode prog_5_method_4_code 8 = .ok (.getfield 31, 3) := by decide +kernel
theorem dPR_beginWith_11 : decode prog_5_method_4_code 11 = .ok (.aload_n 1, 1) := by decide +kernel
theorem dPR_beginWith_12 : decode prog_5_method_4_code 12 = .ok (.invokevirtual 137, 3) := by decide +kernel
theorem dPR_beginWith_15 : decode prog_5_method_4_code 15 = .ok (.aload_n 0, 1) := by decide +kernel
theorem dPR_beginWith_16 : decode prog_5_method_4_code 16 = .ok (.aload_n 1, 1) := by decide +kernel
theorem dPR_beginWith_17 : decode prog_5_method_4_code 17 = .ok (.putfield 114, 3) := by decide +kernel
theorem dPR_beginWith_20 : decode prog_5_method_4_code 20 = .ok (.aload_n 0, 1) := by decide +kernel
theorem dPR_beginWith_21 : decode prog_5_method_4_code 21 = .ok (.aload_n 1, 1) := by decide +kernel
theorem dPR_beginWith_22 : decode prog_5_method_4_code 22 = .ok (.getfield 140, 3) := by decide +kernel
theorem dPR_beginWith_25 : decode prog_5_method_4_code 25 = .ok (.putfield 85, 3) := by decide +kernel
theorem dPR_beginWith_28 : decode prog_5_method_4_code 28 = .ok (.aload_n 0, 1) := by decide +kernel
theorem dPR_beginWith_29 : decode prog_5_method_4_code 29 = .ok (.iconst 1, 1) := by decide +kernel
theorem dPR_beginWith_30 : decode prog_5_method_4_code 30 = .ok (.putfield 141, 3) := by decide +kernel
theorem dPR_beginWith_33 : decode prog_5_method_4_code 33 = .ok (.aload_n 0, 1) := by decide +kernel
theorem dPR_beginWith_34 : decode prog_5_method_4_code 34 = .ok (.iconst 0, 1) := by decide +kernel
theorem dPR_beginWith_35 : decode prog_5_method_4_code 35 = .ok (.putfield 144, 3) := by decide +kernel
theorem dPR_beginWith_38 : decode prog_5_method_4_code 38 = .ok (.aload_n 0, 1) := by decide +kernel
theorem dPR_beginWith_39 : decode prog_5_method_4_code 39 = .ok (.iconst 0, 1) := by decide +kernel
theorem dPR_beginWith_40 : decode prog_5_method_4_code 40 = .ok (.putfield 110, 3) := by decide +kernel
theorem dPR_beginWith_43 : decode prog_5_method_4_code 43 = .ok (.aload_n 0, 1) := by decide +kernel
theorem dPR_beginWith_44 : decode prog_5_method_4_code 44 = .ok (.iconst 0, 1) := by decide +kernel
theorem dPR_beginWith_45 : decode prog_5_method_4_code 45 = .ok (.putfield 147, 3) := by decide +kernel
theorem dPR_beginWith_48 : decode prog_5_method_4_code 48 = .ok (.return_, 1) := by decide +kernel
theorem dIN_fetch_0 : decode prog_3_method_2_code 0 = .ok (.aload_n 0, 1) := by decide +kernel
theorem dIN_fetch_1 : decode prog_3_method_2_code 1 = .ok (.aload_n 0, 1) := by decide +kernel
theorem dIN_fetch_2 : decode prog_3_method_2_code 2 = .ok (.getfield 9, 3) := by decide +kernel
theorem dIN_fetch_5 : decode prog_3_method_2_code 5 = .ok (.iload_n 1, 1) := by decide +kernel
theorem dIN_fetch_6 : decode prog_3_method_2_code 6 = .ok (.iconst 1, 1) := by decide +kernel
theorem dIN_fetch_7 : decode prog_3_method_2_code 7 = .ok (.iadd, 1) := by decide +kernel
theorem dIN_fetch_8 : decode prog_3_method_2_code 8 = .ok (.invokevirtual 21, 3) := by decide +kernel
theorem dIN_fetch_11 : decode prog_3_method_2_code 11 = .ok (.bipush 15, 2) := by decide +kernel
theorem dIN_fetch_13 : decode prog_3_method_2_code 13 = .ok (.iand, 1) := by decide +kernel
theorem dIN_fetch_14 : decode prog_3_method_2_code 14 = .ok (.putfield 27, 3) := by decide +kernel
theorem dIN_fetch_17 : decode prog_3_method_2_code 17 = .ok (.aload_n 0, 1) := by decide +kernel
theorem dIN_fetch_18 : decode prog_3_method_2_code 18 = .ok (.aload_n 0, 1) := by decide +kernel
theorem dIN_fetch_19 : decode prog_3_method_2_code 19 = .ok (.getfield 9, 3) := by decide +kernel
theorem dIN_fetch_22 : decode prog_3_method_2_code 22 = .ok (.bipush 32, 2) := by decide +kernel
theorem dIN_fetch_24 : decode prog_3_method_2_code 24 = .ok (.aload_n 0, 1) := by decide +kernel
theorem dIN_fetch_25 : decode prog_3_method_2_code 25 = .ok (.getfield 27, 3) := by decide +kernel
theorem dIN_fetch_28 : decode prog_3_method_2_code 28 = .ok (.iadd, 1) := by decide +kernel
theorem dIN_fetch_29 : decode prog_3_method_2_code 29 = .ok (.invokevirtual 21, 3) := by decide +kernel
theorem dIN_fetch_32 : decode prog_3_method_2_code 32 = .ok (.putfield 31, 3) := by decide +kernel
theorem dIN_fetch_35 : decode prog_3_method_2_code 35 = .ok (.aload_n 0, 1) := by decide +kernel
theorem dIN_fetch_36 : decode prog_3_method_2_code 36 = .ok (.getfield 9, 3) := by decide +kernel
theorem dIN_fetch_39 : decode prog_3_method_2_code 39 = .ok (.aload_n 0, 1) := by decide +kernel
theorem dIN_fetch_40 : decode prog_3_method_2_code 40 = .ok (.getfield 31, 3) := by decide +kernel
theorem dIN_fetch_43 : decode prog_3_method_2_code 43 = .ok (.invokevirtual 21, 3) := by decide +kernel
theorem dIN_fetch_46 : decode prog_3_method_2_code 46 = .ok (.istore_n 2, 1) := by decide +kernel
theorem dIN_fetch_47 : decode prog_3_method_2_code 47 = .ok (.aload_n 0, 1) := by decide +kernel
theorem dIN_fetch_48 : decode prog_3_method_2_code 48 = .ok (.aload_n 0, 1) := by decide +kernel
theorem dIN_fetch_49 : decode prog_3_method_2_code 49 = .ok (.getfield 9, 3) := by decide +kernel
theorem dIN_fetch_52 : decode prog_3_method_2_code 52 = .ok (.iload_n 1, 1) := by decide +kernel
theorem dIN_fetch_53 : decode prog_3_method_2_code 53 = .ok (.iconst 2, 1) := by decide +kernel
theorem dIN_fetch_54 : decode prog_3_method_2_code 54 = .ok (.iadd, 1) := by decide +kernel
theorem dIN_fetch_55 : decode prog_3_method_2_code 55 = .ok (.invokevirtual 21, 3) := by decide +kernel
theorem dIN_fetch_58 : decode prog_3_method_2_code 58 = .ok (.putfield 34, 3) := by decide +kernel
theorem dIN_fetch_61 : decode prog_3_method_2_code 61 = .ok (.aload_n 0, 1) := by decide +kernel
theorem dIN_fetch_62 : decode prog_3_method_2_code 62 = .ok (.aload_n 0, 1) := by decide +kernel
theorem dIN_fetch_63 : decode prog_3_method_2_code 63 = .ok (.getfield 15, 3) := by decide +kernel
theorem dIN_fetch_66 : decode prog_3_method_2_code 66 = .ok (.iload_n 2, 1) := by decide +kernel
theorem dIN_fetch_67 : decode prog_3_method_2_code 67 = .ok (.aload_n 0, 1) := by decide +kernel
theorem dIN_fetch_68 : decode prog_3_method_2_code 68 = .ok (.getfield 34, 3) := by decide +kernel
theorem dIN_fetch_71 : decode prog_3_method_2_code 71 = .ok (.invokevirtual 37, 3) := by decide +kernel
theorem dIN_fetch_74 : decode prog_3_method_2_code 74 = .ok (.putfield 41, 3) := by decide +kernel
theorem dIN_fetch_77 : decode prog_3_method_2_code 77 = .ok (.aload_n 0, 1) := by decide +kernel
theorem dIN_fetch_78 : decode prog_3_method_2_code 78 = .ok (.getfield 41, 3) := by decide +kernel
theorem dIN_fetch_81 : decode prog_3_method_2_code 81 = .ok (.getstatic 44, 3) := by decide +kernel
theorem dIN_fetch_84 : decode prog_3_method_2_code 84 = .ok (.arraylength, 1) := by decide +kernel
theorem dIN_fetch_85 : decode prog_3_method_2_code 85 = .ok (.if_icmp .ge 14, 3) := by decide +kernel
theorem dIN_fetch_88 : decode prog_3_method_2_code 88 = .ok (.getstatic 44, 3) := by decide +kernel
theorem dIN_fetch_91 : decode prog_3_method_2_code 91 = .ok (.aload_n 0, 1) := by decide +kernel
theorem dIN_fetch_92 : decode prog_3_method_2_code 92 = .ok (.getfield 41, 3) := by decide +kernel
theorem dIN_fetch_95 : decode prog_3_method_2_code 95 = .ok (.iaload, 1) := by decide +kernel
theorem dIN_fetch_96 : decode prog_3_method_2_code 96 = .ok (.goto 4, 3) := by decide +kernel
theorem dIN_fetch_99 : decode prog_3_method_2_code 99 = .ok (.iconst (-1), 1) := by decide +kernel
theorem dIN_fetch_100 : decode prog_3_method_2_code 100 = .ok (.istore_n 3, 1) := by decide +kernel
theorem dIN_fetch_101 : decode prog_3_method_2_code 101 = .ok (.iload_n 3, 1) := by decide +kernel
theorem dIN_fetch_102 : decode prog_3_method_2_code 102 = .ok (.ifCond .ge 12, 3) := by decide +kernel
theorem dIN_fetch_105 : decode prog_3_method_2_code 105 = .ok (.aload_n 0, 1) := by decide +kernel
theorem dIN_fetch_106 : decode prog_3_method_2_code 106 = .ok (.getfield 9, 3) := by decide +kernel
theorem dIN_fetch_109 : decode prog_3_method_2_code 109 = .ok (.bipush 9, 2) := by decide +kernel
theorem dIN_fetch_111 : decode prog_3_method_2_code 111 = .ok (.invokevirtual 48, 3) := by decide +kernel
theorem dIN_fetch_114 : decode prog_3_method_2_code 114 = .ok (.aload_n 0, 1) := by decide +kernel
theorem dIN_fetch_115 : decode prog_3_method_2_code 115 = .ok (.iconst 0, 1) := by decide +kernel
theorem dIN_fetch_116 : decode prog_3_method_2_code 116 = .ok (.putfield 52, 3) := by decide +kernel
theorem dIN_fetch_119 : decode prog_3_method_2_code 119 = .ok (.iconst 1, 1) := by decide +kernel
theorem dIN_fetch_120 : decode prog_3_method_2_code 120 = .ok (.istore 4, 2) := by decide +kernel
theorem dIN_fetch_122 : decode prog_3_method_2_code 122 = .ok (.iload 4, 2) := by decide +kernel
theorem dIN_fetch_124 : decode prog_3_method_2_code 124 = .ok (.iload_n 3, 1) := by decide +kernel
theorem dIN_fetch_125 : decode prog_3_method_2_code 125 = .ok (.if_icmp .gt 37, 3) := by decide +kernel
theorem dIN_fetch_128 : decode prog_3_method_2_code 128 = .ok (.aload_n 0, 1) := by decide +kernel
theorem dIN_fetch_129 : decode prog_3_method_2_code 129 = .ok (.aload_n 0, 1) := by decide +kernel
theorem dIN_fetch_130 : decode prog_3_method_2_code 130 = .ok (.getfield 52, 3) := by decide +kernel
theorem dIN_fetch_133 : decode prog_3_method_2_code 133 = .ok (.sipush 256, 3) := by decide +kernel
theorem dIN_fetch_136 : decode prog_3_method_2_code 136 = .ok (.imul, 1) := by decide +kernel
theorem dIN_fetch_137 : decode prog_3_method_2_code 137 = .ok (.aload_n 0, 1) := by decide +kernel
theorem dIN_fetch_138 : decode prog_3_method_2_code 138 = .ok (.getfield 15, 3) := by decide +kernel
theorem dIN_fetch_141 : decode prog_3_method_2_code 141 = .ok (.iload_n 2, 1) := by decide +kernel
theorem dIN_fetch_142 : decode prog_3_method_2_code 142 = .ok (.aload_n 0, 1) := by decide +kernel
theorem dIN_fetch_143 : decode prog_3_method_2_code 143 = .ok (.getfield 34, 3) := by decide +kernel
theorem dIN_fetch_146 : decode prog_3_method_2_code 146 = .ok (.iload 4, 2) := by decide +kernel
theorem dIN_fetch_148 : decode prog_3_method_2_code 148 = .ok (.iadd, 1) := by decide +kernel
theorem dIN_fetch_149 : decode prog_3_method_2_code 149 = .ok (.invokevirtual 37, 3) := by decide +kernel
theorem dIN_fetch_152 : decode prog_3_method_2_code 152 = .ok (.iadd, 1) := by decide +kernel
theorem dIN_fetch_153 : decode prog_3_method_2_code 153 = .ok (.putfield 52, 3) := by decide +kernel
theorem dIN_fetch_156 : decode prog_3_method_2_code 156 = .ok (.iinc 4 1, 3) := by decide +kernel
theorem dIN_fetch_159 : decode prog_3_method_2_code 159 = .ok (.goto (-37), 3) := by decide +kernel
theorem dIN_fetch_162 : decode prog_3_method_2_code 162 = .ok (.aload_n 0, 1) := by decide +kernel
theorem dIN_fetch_163 : decode prog_3_method_2_code 163 = .ok (.aload_n 0, 1) := by decide +kernel
theorem dIN_fetch_164 : decode prog_3_method_2_code 164 = .ok (.getfield 34, 3) := by decide +kernel
theorem dIN_fetch_167 : decode prog_3_method_2_code 167 = .ok (.iconst 1, 1) := by decide +kernel
theorem dIN_fetch_168 : decode prog_3_method_2_code 168 = .ok (.iadd, 1) := by decide +kernel
theorem dIN_fetch_169 : decode prog_3_method_2_code 169 = .ok (.iload_n 3, 1) := by decide +kernel
theorem dIN_fetch_170 : decode prog_3_method_2_code 170 = .ok (.iadd, 1) := by decide +kernel
theorem dIN_fetch_171 : decode prog_3_method_2_code 171 = .ok (.putfield 55, 3) := by decide +kernel
theorem dIN_fetch_174 : decode prog_3_method_2_code 174 = .ok (.return_, 1) := by decide +kernel
theorem dWS_push_0 : decode prog_8_method_5_code 0 = .ok (.aload_n 0, 1) := by decide +kernel
theorem dWS_push_1 : decode prog_8_method_5_code 1 = .ok (.getfield 25, 3) := by decide +kernel
theorem dWS_push_4 : decode prog_8_method_5_code 4 = .ok (.bipush 9, 2) := by decide +kernel
theorem dWS_push_6 : decode prog_8_method_5_code 6 = .ok (.if_icmp .ge 26, 3) := by decide +kernel
theorem dWS_push_9 : decode prog_8_method_5_code 9 = .ok (.aload_n 0, 1) := by decide +kernel
theorem dWS_push_10 : decode prog_8_method_5_code 10 = .ok (.getfield 13, 3) := by decide +kernel
theorem dWS_push_13 : decode prog_8_method_5_code 13 = .ok (.aload_n 0, 1) := by decide +kernel
theorem dWS_push_14 : decode prog_8_method_5_code 14 = .ok (.getfield 25, 3) := by decide +kernel
theorem dWS_push_17 : decode prog_8_method_5_code 17 = .ok (.iload_n 1, 1) := by decide +kernel
theorem dWS_push_18 : decode prog_8_method_5_code 18 = .ok (.ldc 27, 2) := by decide +kernel
theorem dWS_push_20 : decode prog_8_method_5_code 20 = .ok (.iand, 1) := by decide +kernel
theorem dWS_push_21 : decode prog_8_method_5_code 21 = .ok (.iastore, 1) := by decide +kernel
theorem dWS_push_22 : decode prog_8_method_5_code 22 = .ok (.aload_n 0, 1) := by decide +kernel
theorem dWS_push_23 : decode prog_8_method_5_code 23 = .ok (.dup, 1) := by decide +kernel
theorem dWS_push_24 : decode prog_8_method_5_code 24 = .ok (.getfield 25, 3) := by decide +kernel
theorem dWS_push_27 : decode prog_8_method_5_code 27 = .ok (.iconst 1, 1) := by decide +kernel
theorem dWS_push_28 : decode prog_8_method_5_code 28 = .ok (.iadd, 1) := by decide +kernel
theorem dWS_push_29 : decode prog_8_method_5_code 29 = .ok (.putfield 25, 3) := by decide +kernel
theorem dWS_push_32 : decode prog_8_method_5_code 32 = .ok (.return_, 1) := by decide +kernel
theorem dWS_pop_0 : decode prog_8_method_6_code 0 = .ok (.aload_n 0, 1) := by decide +kernel
theorem dWS_pop_1 : decode prog_8_method_6_code 1 = .ok (.getfield 25, 3) := by decide +kernel
theorem dWS_pop_4 : decode prog_8_method_6_code 4 = .ok (.ifCond .ne 13, 3) := by decide +kernel
theorem dWS_pop_7 : decode prog_8_method_6_code 7 = .ok (.aload_n 0, 1) := by decide +kernel
theorem dWS_pop_8 : decode prog_8_method_6_code 8 = .ok (.getfield 17, 3) := by decide +kernel
theorem dWS_pop_11 : decode prog_8_method_6_code 11 = .ok (.iconst 5, 1) := by decide +kernel
theorem dWS_pop_12 : decode prog_8_method_6_code 12 = .ok (.invokevirtual 28, 3) := by decide +kernel
theorem dWS_pop_15 : decode prog_8_method_6_code 15 = .ok (.iconst 0, 1) := by decide +kernel
theorem dWS_pop_16 : decode prog_8_method_6_code 16 = .ok (.ireturn, 1) := by decide +kernel
theorem dWS_pop_17 : decode prog_8_method_6_code 17 = .ok (.aload_n 0, 1) := by decide +kernel
theorem dWS_pop_18 : decode prog_8_method_6_code 18 = .ok (.dup, 1) := by decide +kernel
theorem dWS_pop_19 : decode prog_8_method_6_code 19 = .ok (.getfield 25, 3) := by decide +kernel
theorem dWS_pop_22 : decode prog_8_method_6_code 22 = .ok (.iconst 1, 1) := by decide +kernel
theorem dWS_pop_23 : decode prog_8_method_6_code 23 = .ok (.isub, 1) := by decide +kernel
theorem dWS_pop_24 : decode prog_8_method_6_code 24 = .ok (.putfield 25, 3) := by decide +kernel
theorem dWS_pop_27 : decode prog_8_method_6_code 27 = .ok (.aload_n 0, 1) := by decide +kernel
theorem dWS_pop_28 : decode prog_8_method_6_code 28 = .ok (.getfield 13, 3) := by decide +kernel
theorem dWS_pop_31 : decode prog_8_method_6_code 31 = .ok (.aload_n 0, 1) := by decide +kernel
theorem dWS_pop_32 : decode prog_8_method_6_code 32 = .ok (.getfield 25, 3) := by decide +kernel
theorem dWS_pop_35 : decode prog_8_method_6_code 35 = .ok (.iaload, 1) := by decide +kernel
theorem dWS_pop_36 : decode prog_8_method_6_code 36 = .ok (.ireturn, 1) := by decide +kernel
theorem dPR_move_0 : decode prog_5_method_8_code 0 = .ok (.aload_n 0, 1) := by decide +kernel
theorem dPR_move_1 : decode prog_5_method_8_code 1 = .ok (.getfield 40, 3) := by decide +kernel
theorem dPR_move_4 : decode prog_5_method_8_code 4 = .ok (.getfield 190, 3) := by decide +kernel
theorem dPR_move_7 : decode prog_5_method_8_code 7 = .ok (.istore_n 1, 1) := by decide +kernel
theorem dPR_move_8 : decode prog_5_method_8_code 8 = .ok (.aload_n 0, 1) := by decide +kernel
theorem dPR_move_9 : decode prog_5_method_8_code 9 = .ok (.getfield 40, 3) := by decide +kernel
theorem dPR_move_12 : decode prog_5_method_8_code 12 = .ok (.getfield 92, 3) := by decide +kernel
theorem dPR_move_15 : decode prog_5_method_8_code 15 = .ok (.tableswitch 216 1 8 #[45, 45, 56, 81, 106, 134, 162, 188], 45) := by decide +kernel
theorem dPR_move_60 : decode prog_5_method_8_code 60 = .ok (.aload_n 0, 1) := by decide +kernel
theorem dPR_move_61 : decode prog_5_method_8_code 61 = .ok (.getfield 31, 3) := by decide +kernel
theorem dPR_move_64 : decode prog_5_method_8_code 64 = .ok (.iload_n 1, 1) := by decide +kernel
theorem dPR_move_65 : decode prog_5_method_8_code 65 = .ok (.invokevirtual 193, 3) := by decide +kernel
theorem dPR_move_68 : decode prog_5_method_8_code 68 = .ok (.goto 163, 3) := by decide +kernel
theorem dPR_move_71 : decode prog_5_method_8_code 71 = .ok (.aload_n 0, 1) := by decide +kernel
theorem dPR_move_72 : decode prog_5_method_8_code 72 = .ok (.getfield 31, 3) := by decide +kernel
theorem dPR_move_75 : decode prog_5_method_8_code 75 = .ok (.aload_n 0, 1) := by decide +kernel
theorem dPR_move_76 : decode prog_5_method_8_code 76 = .ok (.getfield 9, 3) := by decide +kernel
theorem dPR_move_79 : decode prog_5_method_8_code 79 = .ok (.aload_n 0, 1) := by decide +kernel
theorem dPR_move_80 : decode prog_5_method_8_code 80 = .ok (.getfield 85, 3) := by decide +kernel
theorem dPR_move_83 : decode prog_5_method_8_code 83 = .ok (.iconst 4, 1) := by decide +kernel
theorem dPR_move_84 : decode prog_5_method_8_code 84 = .ok (.iadd, 1) := by decide +kernel
theorem dPR_move_85 : decode prog_5_method_8_code 85 = .ok (.iload_n 1, 1) := by decide +kernel
theorem dPR_move_86 : decode prog_5_method_8_code 86 = .ok (.iadd, 1) := by decide +kernel
theorem dPR_move_87 : decode prog_5_method_8_code 87 = .ok (.invokevirtual 196, 3) := by decide +kernel
theorem dPR_move_90 : decode prog_5_method_8_code 90 = .ok (.invokevirtual 193, 3) := by decide +kernel
theorem dPR_move_93 : decode prog_5_method_8_code 93 = .ok (.goto 138, 3) := by decide +kernel
theorem dPR_move_96 : decode prog_5_method_8_code 96 = .ok (.aload_n 0, 1) := by decide +kernel
theorem dPR_move_97 : decode prog_5_method_8_code 97 = .ok (.getfield 9, 3) := by decide +kernel
theorem dPR_move_100 : decode prog_5_method_8_code 100 = .ok (.aload_n 0, 1) := by decide +kernel
theorem dPR_move_101 : decode prog_5_method_8_code 101 = .ok (.getfield 85, 3) := by decide +kernel
theorem dPR_move_104 : decode prog_5_method_8_code 104 = .ok (.iconst 4, 1) := by decide +kernel
theorem dPR_move_105 : decode prog_5_method_8_code 105 = .ok (.iadd, 1) := by decide +kernel
theorem dPR_move_106 : decode prog_5_method_8_code 106 = .ok (.iload_n 1, 1) := by decide +kernel
theorem dPR_move_107 : decode prog_5_method_8_code 107 = .ok (.iadd, 1) := by decide +kernel
theorem dPR_move_108 : decode prog_5_method_8_code 108 = .ok (.aload_n 0, 1) := by decide +kernel
theorem dPR_move_109 : decode prog_5_method_8_code 109 = .ok (.getfield 31, 3) := by decide +kernel
theorem dPR_move_112 : decode prog_5_method_8_code 112 = .ok (.invokevirtual 200, 3) := by decide +kernel
theorem dPR_move_115 : decode prog_5_method_8_code 115 = .ok (.invokevirtual 162, 3) := by decide +kernel
theorem dPR_move_118 : decode prog_5_method_8_code 118 = .ok (.goto 113, 3) := by decide +kernel
theorem dPR_move_121 : decode prog_5_method_8_code 121 = .ok (.aload_n 0, 1) := by decide +kernel
theorem dPR_move_122 : decode prog_5_method_8_code 122 = .ok (.getfield 31, 3) := by decide +kernel
theorem dPR_move_125 : decode prog_5_method_8_code 125 = .ok (.aload_n 0, 1) := by decide +kernel
theorem dPR_move_126 : decode prog_5_method_8_code 126 = .ok (.getfield 9, 3) := by decide +kernel
theorem dPR_move_129 : decode prog_5_method_8_code 129 = .ok (.aload_n 0, 1) := by decide +kernel
theorem dPR_move_130 : decode prog_5_method_8_code 130 = .ok (.getfield 40, 3) := by decide +kernel
theorem dPR_move_133 : decode prog_5_method_8_code 133 = .ok (.getfield 203, 3) := by decide +kernel
theorem dPR_move_136 : decode prog_5_method_8_code 136 = .ok (.iconst 1, 1) := by decide +kernel
theorem dPR_move_137 : decode prog_5_method_8_code 137 = .ok (.iadd, 1) := by decide +kernel
theorem dPR_move_138 : decode prog_5_method_8_code 138 = .ok (.iload_n 1, 1) := by decide +kernel
theorem dPR_move_139 : decode prog_5_method_8_code 139 = .ok (.iadd, 1) := by decide +kernel
theorem dPR_move_140 : decode prog_5_method_8_code 140 = .ok (.invokevirtual 196, 3) := by decide +kernel
theorem dPR_move_143 : decode prog_5_method_8_code 143 = .ok (.invokevirtual 193, 3) := by decide +kernel
theorem dPR_move_146 : decode prog_5_method_8_code 146 = .ok (.goto 85, 3) := by decide +kernel
theorem dPR_move_149 : decode prog_5_method_8_code 149 = .ok (.aload_n 0, 1) := by decide +kernel
theorem dPR_move_150 : decode prog_5_method_8_code 150 = .ok (.getfield 9, 3) := by decide +kernel
theorem dPR_move_153 : decode prog_5_method_8_code 153 = .ok (.aload_n 0, 1) := by decide +kernel
theorem dPR_move_154 : decode prog_5_method_8_code 154 = .ok (.getfield 40, 3) := by decide +kernel
theorem dPR_move_157 : decode prog_5_method_8_code 157 = .ok (.getfield 203, 3) := by decide +kernel
theorem dPR_move_160 : decode prog_5_method_8_code 160 = .ok (.iconst 1, 1) := by decide +kernel
theorem dPR_move_161 : decode prog_5_method_8_code 161 = .ok (.iadd, 1) := by decide +kernel
theorem dPR_move_162 : decode prog_5_method_8_code 162 = .ok (.iload_n 1, 1) := by decide +kernel
theorem dPR_move_163 : decode prog_5_method_8_code 163 = .ok (.iadd, 1) := by decide +kernel
theorem dPR_move_164 : decode prog_5_method_8_code 164 = .ok (.aload_n 0, 1) := by decide +kernel
theorem dPR_move_165 : decode prog_5_method_8_code 165 = .ok (.getfield 31, 3) := by decide +kernel
theorem dPR_move_168 : decode prog_5_method_8_code 168 = .ok (.invokevirtual 200, 3) := by decide +kernel
theorem dPR_move_171 : decode prog_5_method_8_code 171 = .ok (.invokevirtual 162, 3) := by decide +kernel
theorem dPR_move_174 : decode prog_5_method_8_code 174 = .ok (.goto 57, 3) := by decide +kernel
theorem dPR_move_177 : decode prog_5_method_8_code 177 = .ok (.aload_n 0, 1) := by decide +kernel
theorem dPR_move_178 : decode prog_5_method_8_code 178 = .ok (.getfield 31, 3) := by decide +kernel
theorem dPR_move_181 : decode prog_5_method_8_code 181 = .ok (.aload_n 0, 1) := by decide +kernel
theorem dPR_move_182 : decode prog_5_method_8_code 182 = .ok (.getfield 9, 3) := by decide +kernel
theorem dPR_move_185 : decode prog_5_method_8_code 185 = .ok (.aload_n 0, 1) := by decide +kernel
theorem dPR_move_186 : decode prog_5_method_8_code 186 = .ok (.getfield 31, 3) := by decide +kernel
theorem dPR_move_189 : decode prog_5_method_8_code 189 = .ok (.invokevirtual 200, 3) := by decide +kernel
theorem dPR_move_192 : decode prog_5_method_8_code 192 = .ok (.iload_n 1, 1) := by decide +kernel
theorem dPR_move_193 : decode prog_5_method_8_code 193 = .ok (.iadd, 1) := by decide +kernel
theorem dPR_move_194 : decode prog_5_method_8_code 194 = .ok (.invokevirtual 196, 3) := by decide +kernel
theorem dPR_move_197 : decode prog_5_method_8_code 197 = .ok (.invokevirtual 193, 3) := by decide +kernel
theorem dPR_move_200 : decode prog_5_method_8_code 200 = .ok (.goto 31, 3) := by decide +kernel
theorem dPR_move_203 : decode prog_5_method_8_code 203 = .ok (.aload_n 0, 1) := by decide +kernel
theorem dPR_move_204 : decode prog_5_method_8_code 204 = .ok (.getfield 31, 3) := by decide +kernel
theorem dPR_move_207 : decode prog_5_method_8_code 207 = .ok (.invokevirtual 200, 3) := by decide +kernel
theorem dPR_move_210 : decode prog_5_method_8_code 210 = .ok (.iload_n 1, 1) := by decide +kernel
theorem dPR_move_211 : decode prog_5_method_8_code 211 = .ok (.iadd, 1) := by decide +kernel
theorem dPR_move_212 : decode prog_5_method_8_code 212 = .ok (.istore_n 2, 1) := by decide +kernel
theorem dPR_move_213 : decode prog_5_method_8_code 213 = .ok (.aload_n 0, 1) := by decide +kernel
theorem dPR_move_214 : decode prog_5_method_8_code 214 = .ok (.getfield 9, 3) := by decide +kernel
theorem dPR_move_217 : decode prog_5_method_8_code 217 = .ok (.iload_n 2, 1) := by decide +kernel
theorem dPR_move_218 : decode prog_5_method_8_code 218 = .ok (.aload_n 0, 1) := by decide +kernel
theorem dPR_move_219 : decode prog_5_method_8_code 219 = .ok (.getfield 31, 3) := by decide +kernel
theorem dPR_move_222 : decode prog_5_method_8_code 222 = .ok (.invokevirtual 200, 3) := by decide +kernel
theorem dPR_move_225 : decode prog_5_method_8_code 225 = .ok (.invokevirtual 162, 3) := by decide +kernel
theorem dPR_move_228 : decode prog_5_method_8_code 228 = .ok (.goto 3, 3) := by decide +kernel
theorem dPR_move_231 : decode prog_5_method_8_code 231 = .ok (.return_, 1) := by decide +kernel
theorem dPR_shifted_0 : decode prog_5_method_11_code 0 = .ok (.iload_n 1, 1) := by decide +kernel
theorem dPR_shifted_1 : decode prog_5_method_11_code 1 = .ok (.bipush (-16), 2) := by decide +kernel
theorem dPR_shifted_3 : decode prog_5_method_11_code 3 = .ok (.if_icmp .le 9, 3) := by decide +kernel
theorem dPR_shifted_6 : decode prog_5_method_11_code 6 = .ok (.iload_n 1, 1) := by decide +kernel
theorem dPR_shifted_7 : decode prog_5_method_11_code 7 = .ok (.bipush 16, 2) := by decide +kernel
theorem dPR_shifted_9 : decode prog_5_method_11_code 9 = .ok (.if_icmp .lt 5, 3) := by decide +kernel
theorem dPR_shifted_12 : decode prog_5_method_11_code 12 = .ok (.iconst 0, 1) := by decide +kernel
theorem dPR_shifted_13 : decode prog_5_method_11_code 13 = .ok (.ireturn, 1) := by decide +kernel
theorem dPR_shifted_14 : decode prog_5_method_11_code 14 = .ok (.iload_n 1, 1) := by decide +kernel
theorem dPR_shifted_15 : decode prog_5_method_11_code 15 = .ok (.ifCond .lt 9, 3) := by decide +kernel
theorem dPR_shifted_18 : decode prog_5_method_11_code 18 = .ok (.iload_n 0, 1) := by decide +kernel
theorem dPR_shifted_19 : decode prog_5_method_11_code 19 = .ok (.iload_n 1, 1) := by decide +kernel
theorem dPR_shifted_20 : decode prog_5_method_11_code 20 = .ok (.ishl, 1) := by decide +kernel
theorem dPR_shifted_21 : decode prog_5_method_11_code 21 = .ok (.goto 7, 3) := by decide +kernel
theorem dPR_shifted_24 : decode prog_5_method_11_code 24 = .ok (.iload_n 0, 1) := by decide +kernel
theorem dPR_shifted_25 : decode prog_5_method_11_code 25 = .ok (.iload_n 1, 1) := by decide +kernel
theorem dPR_shifted_26 : decode prog_5_method_11_code 26 = .ok (.ineg, 1) := by decide +kernel
theorem dPR_shifted_27 : decode prog_5_method_11_code 27 = .ok (.ishr, 1) := by decide +kernel
theorem dPR_shifted_28 : decode prog_5_method_11_code 28 = .ok (.ireturn, 1) := by decide +kernel
theorem dPR_combined_0 : decode prog_5_method_10_code 0 = .ok (.iload_n 0, 1) := by decide +kernel
theorem dPR_combined_1 : decode prog_5_method_10_code 1 = .ok (.tableswitch 79 9 15 #[43, 47, 51, 55, 67, 71, 75], 43) := by decide +kernel
theorem dPR_combined_44 : decode prog_5_method_10_code 44 = .ok (.iload_n 1, 1) := by decide +kernel
theorem dPR_combined_45 : decode prog_5_method_10_code 45 = .ok (.iload_n 2, 1) := by decide +kernel
theorem dPR_combined_46 : decode prog_5_method_10_code 46 = .ok (.iadd, 1) := by decide +kernel
theorem dPR_combined_47 : decode prog_5_method_10_code 47 = .ok (.ireturn, 1) := by decide +kernel
theorem dPR_combined_48 : decode prog_5_method_10_code 48 = .ok (.iload_n 1, 1) := by decide +kernel
theorem dPR_combined_49 : decode prog_5_method_10_code 49 = .ok (.iload_n 2, 1) := by decide +kernel
theorem dPR_combined_50 : decode prog_5_method_10_code 50 = .ok (.isub, 1) := by decide +kernel
theorem dPR_combined_51 : decode prog_5_method_10_code 51 = .ok (.ireturn, 1) := by decide +kernel
theorem dPR_combined_52 : decode prog_5_method_10_code 52 = .ok (.iload_n 1, 1) := by decide +kernel
theorem dPR_combined_53 : decode prog_5_method_10_code 53 = .ok (.iload_n 2, 1) := by decide +kernel
theorem dPR_combined_54 : decode prog_5_method_10_code 54 = .ok (.imul, 1) := by decide +kernel
theorem dPR_combined_55 : decode prog_5_method_10_code 55 = .ok (.ireturn, 1) := by decide +kernel
theorem dPR_combined_56 : decode prog_5_method_10_code 56 = .ok (.iload_n 2, 1) := by decide +kernel
theorem dPR_combined_57 : decode prog_5_method_10_code 57 = .ok (.ifCond .ne 7, 3) := by decide +kernel
theorem dPR_combined_60 : decode prog_5_method_10_code 60 = .ok (.iconst 0, 1) := by decide +kernel
theorem dPR_combined_61 : decode prog_5_method_10_code 61 = .ok (.goto 6, 3) := by decide +kernel
theorem dPR_combined_64 : decode prog_5_method_10_code 64 = .ok (.iload_n 1, 1) := by decide +kernel
theorem dPR_combined_65 : decode prog_5_method_10_code 65 = .ok (.iload_n 2, 1) := by decide +kernel
theorem dPR_combined_66 : decode prog_5_method_10_code 66 = .ok (.idiv, 1) := by decide +kernel
theorem dPR_combined_67 : decode prog_5_method_10_code 67 = .ok (.ireturn, 1) := by decide +kernel
theorem dPR_combined_68 : decode prog_5_method_10_code 68 = .ok (.iload_n 1, 1) := by decide +kernel
theorem dPR_combined_69 : decode prog_5_method_10_code 69 = .ok (.iload_n 2, 1) := by decide +kernel
theorem dPR_combined_70 : decode prog_5_method_10_code 70 = .ok (.iand, 1) := by decide +kernel
theorem dPR_combined_71 : decode prog_5_method_10_code 71 = .ok (.ireturn, 1) := by decide +kernel
theorem dPR_combined_72 : decode prog_5_method_10_code 72 = .ok (.iload_n 1, 1) := by decide +kernel
theorem dPR_combined_73 : decode prog_5_method_10_code 73 = .ok (.iload_n 2, 1) := by decide +kernel
theorem dPR_combined_74 : decode prog_5_method_10_code 74 = .ok (.ior, 1) := by decide +kernel
theorem dPR_combined_75 : decode prog_5_method_10_code 75 = .ok (.ireturn, 1) := by decide +kernel
theorem dPR_combined_76 : decode prog_5_method_10_code 76 = .ok (.iload_n 1, 1) := by decide +kernel
theorem dPR_combined_77 : decode prog_5_method_10_code 77 = .ok (.iload_n 2, 1) := by decide +kernel
theorem dPR_combined_78 : decode prog_5_method_10_code 78 = .ok (.ixor, 1) := by decide +kernel
theorem dPR_combined_79 : decode prog_5_method_10_code 79 = .ok (.ireturn, 1) := by decide +kernel
theorem dPR_combined_80 : decode prog_5_method_10_code 80 = .ok (.iload_n 1, 1) := by decide +kernel
theorem dPR_combined_81 : decode prog_5_method_10_code 81 = .ok (.iload_n 2, 1) := by decide +kernel
theorem dPR_combined_82 : decode prog_5_method_10_code 82 = .ok (.i2s, 1) := by decide +kernel
theorem dPR_combined_83 : decode prog_5_method_10_code 83 = .ok (.invokestatic 210, 3) := by decide +kernel
theorem dPR_combined_86 : decode prog_5_method_10_code 86 = .ok (.ireturn, 1) := by decide +kernel
theorem dPR_combine_0 : decode prog_5_method_9_code 0 = .ok (.aload_n 0, 1) := by decide +kernel
theorem dPR_combine_1 : decode prog_5_method_9_code 1 = .ok (.getfield 31, 3) := by decide +kernel
theorem dPR_combine_4 : decode prog_5_method_9_code 4 = .ok (.invokevirtual 200, 3) := by decide +kernel
theorem dPR_combine_7 : decode prog_5_method_9_code 7 = .ok (.istore_n 1, 1) := by decide +kernel
theorem dPR_combine_8 : decode prog_5_method_9_code 8 = .ok (.aload_n 0, 1) := by decide +kernel
theorem dPR_combine_9 : decode prog_5_method_9_code 9 = .ok (.getfield 31, 3) := by decide +kernel
theorem dPR_combine_12 : decode prog_5_method_9_code 12 = .ok (.invokevirtual 200, 3) := by decide +kernel
theorem dPR_combine_15 : decode prog_5_method_9_code 15 = .ok (.istore_n 2, 1) := by decide +kernel
theorem dPR_combine_16 : decode prog_5_method_9_code 16 = .ok (.aload_n 0, 1) := by decide +kernel
theorem dPR_combine_17 : decode prog_5_method_9_code 17 = .ok (.getfield 40, 3) := by decide +kernel
theorem dPR_combine_20 : decode prog_5_method_9_code 20 = .ok (.getfield 92, 3) := by decide +kernel
theorem dPR_combine_23 : decode prog_5_method_9_code 23 = .ok (.bipush 12, 2) := by decide +kernel
theorem dPR_combine_25 : decode prog_5_method_9_code 25 = .ok (.if_icmp .ne 19, 3) := by decide +kernel
theorem dPR_combine_28 : decode prog_5_method_9_code 28 = .ok (.iload_n 1, 1) := by decide +kernel
