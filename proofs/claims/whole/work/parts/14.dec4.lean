theorem dMO_placed_8 : decode prog_10_method_30_code 8 = .ok (.irem, 1) := by decide +kernel
theorem dMO_placed_9 : decode prog_10_method_30_code 9 = .ok (.iconst 1, 1) := by decide +kernel
theorem dMO_placed_10 : decode prog_10_method_30_code 10 = .ok (.iadd, 1) := by decide +kernel
theorem dMO_placed_11 : decode prog_10_method_30_code 11 = .ok (.bipush 16, 2) := by decide +kernel
theorem dMO_placed_13 : decode prog_10_method_30_code 13 = .ok (.iload_n 3, 1) := by decide +kernel
theorem dMO_placed_14 : decode prog_10_method_30_code 14 = .ok (.isub, 1) := by decide +kernel
theorem dMO_placed_15 : decode prog_10_method_30_code 15 = .ok (.if_icmp .le 10, 3) := by decide +kernel
theorem dMO_placed_18 : decode prog_10_method_30_code 18 = .ok (.bipush 16, 2) := by decide +kernel
theorem dMO_placed_20 : decode prog_10_method_30_code 20 = .ok (.iload_n 3, 1) := by decide +kernel
theorem dMO_placed_21 : decode prog_10_method_30_code 21 = .ok (.isub, 1) := by decide +kernel
theorem dMO_placed_22 : decode prog_10_method_30_code 22 = .ok (.goto 9, 3) := by decide +kernel
theorem dMO_placed_25 : decode prog_10_method_30_code 25 = .ok (.iload_n 2, 1) := by decide +kernel
theorem dMO_placed_26 : decode prog_10_method_30_code 26 = .ok (.bipush 16, 2) := by decide +kernel
theorem dMO_placed_28 : decode prog_10_method_30_code 28 = .ok (.irem, 1) := by decide +kernel
theorem dMO_placed_29 : decode prog_10_method_30_code 29 = .ok (.iconst 1, 1) := by decide +kernel
theorem dMO_placed_30 : decode prog_10_method_30_code 30 = .ok (.iadd, 1) := by decide +kernel
theorem dMO_placed_31 : decode prog_10_method_30_code 31 = .ok (.istore 4, 2) := by decide +kernel
theorem dMO_placed_33 : decode prog_10_method_30_code 33 = .ok (.iconst 1, 1) := by decide +kernel
theorem dMO_placed_34 : decode prog_10_method_30_code 34 = .ok (.iload 4, 2) := by decide +kernel
theorem dMO_placed_36 : decode prog_10_method_30_code 36 = .ok (.ishl, 1) := by decide +kernel
theorem dMO_placed_37 : decode prog_10_method_30_code 37 = .ok (.iconst 1, 1) := by decide +kernel
theorem dMO_placed_38 : decode prog_10_method_30_code 38 = .ok (.isub, 1) := by decide +kernel
theorem dMO_placed_39 : decode prog_10_method_30_code 39 = .ok (.bipush 16, 2) := by decide +kernel
theorem dMO_placed_41 : decode prog_10_method_30_code 41 = .ok (.iload_n 3, 1) := by decide +kernel
theorem dMO_placed_42 : decode prog_10_method_30_code 42 = .ok (.isub, 1) := by decide +kernel
theorem dMO_placed_43 : decode prog_10_method_30_code 43 = .ok (.iload 4, 2) := by decide +kernel
theorem dMO_placed_45 : decode prog_10_method_30_code 45 = .ok (.isub, 1) := by decide +kernel
theorem dMO_placed_46 : decode prog_10_method_30_code 46 = .ok (.ishl, 1) := by decide +kernel
theorem dMO_placed_47 : decode prog_10_method_30_code 47 = .ok (.istore 5, 2) := by decide +kernel
theorem dMO_placed_49 : decode prog_10_method_30_code 49 = .ok (.iload_n 0, 1) := by decide +kernel
theorem dMO_placed_50 : decode prog_10_method_30_code 50 = .ok (.iload 5, 2) := by decide +kernel
theorem dMO_placed_52 : decode prog_10_method_30_code 52 = .ok (.iconst (-1), 1) := by decide +kernel
theorem dMO_placed_53 : decode prog_10_method_30_code 53 = .ok (.ixor, 1) := by decide +kernel
theorem dMO_placed_54 : decode prog_10_method_30_code 54 = .ok (.iand, 1) := by decide +kernel
theorem dMO_placed_55 : decode prog_10_method_30_code 55 = .ok (.iload_n 1, 1) := by decide +kernel
theorem dMO_placed_56 : decode prog_10_method_30_code 56 = .ok (.bipush 16, 2) := by decide +kernel
theorem dMO_placed_58 : decode prog_10_method_30_code 58 = .ok (.iload_n 3, 1) := by decide +kernel
theorem dMO_placed_59 : decode prog_10_method_30_code 59 = .ok (.isub, 1) := by decide +kernel
theorem dMO_placed_60 : decode prog_10_method_30_code 60 = .ok (.iload 4, 2) := by decide +kernel
theorem dMO_placed_62 : decode prog_10_method_30_code 62 = .ok (.isub, 1) := by decide +kernel
theorem dMO_placed_63 : decode prog_10_method_30_code 63 = .ok (.ishl, 1) := by decide +kernel
theorem dMO_placed_64 : decode prog_10_method_30_code 64 = .ok (.iload 5, 2) := by decide +kernel
theorem dMO_placed_66 : decode prog_10_method_30_code 66 = .ok (.iand, 1) := by decide +kernel
theorem dMO_placed_67 : decode prog_10_method_30_code 67 = .ok (.ior, 1) := by decide +kernel
theorem dMO_placed_68 : decode prog_10_method_30_code 68 = .ok (.ireturn, 1) := by decide +kernel
theorem dMO_meant_0 : decode prog_10_method_16_code 0 = .ok (.iload_n 1, 1) := by decide +kernel
theorem dMO_meant_1 : decode prog_10_method_16_code 1 = .ok (.ifCond .ne 8, 3) := by decide +kernel
theorem dMO_meant_4 : decode prog_10_method_16_code 4 = .ok (.aload_n 0, 1) := by decide +kernel
theorem dMO_meant_5 : decode prog_10_method_16_code 5 = .ok (.iconst 4, 1) := by decide +kernel
theorem dMO_meant_6 : decode prog_10_method_16_code 6 = .ok (.invokevirtual 75, 3) := by decide +kernel
theorem dMO_meant_9 : decode prog_10_method_16_code 9 = .ok (.aload_n 0, 1) := by decide +kernel
theorem dMO_meant_10 : decode prog_10_method_16_code 10 = .ok (.getfield 68, 3) := by decide +kernel
theorem dMO_meant_13 : decode prog_10_method_16_code 13 = .ok (.ifCond .gt 10, 3) := by decide +kernel
theorem dMO_meant_16 : decode prog_10_method_16_code 16 = .ok (.iload_n 1, 1) := by decide +kernel
theorem dMO_meant_17 : decode prog_10_method_16_code 17 = .ok (.iconst 4, 1) := by decide +kernel
theorem dMO_meant_18 : decode prog_10_method_16_code 18 = .ok (.irem, 1) := by decide +kernel
theorem dMO_meant_19 : decode prog_10_method_16_code 19 = .ok (.iconst 2, 1) := by decide +kernel
theorem dMO_meant_20 : decode prog_10_method_16_code 20 = .ok (.if_icmp .eq 5, 3) := by decide +kernel
theorem dMO_meant_23 : decode prog_10_method_16_code 23 = .ok (.iload_n 1, 1) := by decide +kernel
theorem dMO_meant_24 : decode prog_10_method_16_code 24 = .ok (.ireturn, 1) := by decide +kernel
theorem dMO_meant_25 : decode prog_10_method_16_code 25 = .ok (.aload_n 0, 1) := by decide +kernel
theorem dMO_meant_26 : decode prog_10_method_16_code 26 = .ok (.iload_n 1, 1) := by decide +kernel
theorem dMO_meant_27 : decode prog_10_method_16_code 27 = .ok (.iconst 2, 1) := by decide +kernel
theorem dMO_meant_28 : decode prog_10_method_16_code 28 = .ok (.isub, 1) := by decide +kernel
theorem dMO_meant_29 : decode prog_10_method_16_code 29 = .ok (.invokevirtual 85, 3) := by decide +kernel
theorem dMO_meant_32 : decode prog_10_method_16_code 32 = .ok (.istore_n 2, 1) := by decide +kernel
theorem dMO_meant_33 : decode prog_10_method_16_code 33 = .ok (.aload_n 0, 1) := by decide +kernel
theorem dMO_meant_34 : decode prog_10_method_16_code 34 = .ok (.getfield 68, 3) := by decide +kernel
theorem dMO_meant_37 : decode prog_10_method_16_code 37 = .ok (.ifCond .ne 19, 3) := by decide +kernel
theorem dMO_meant_40 : decode prog_10_method_16_code 40 = .ok (.iload_n 2, 1) := by decide +kernel
theorem dMO_meant_41 : decode prog_10_method_16_code 41 = .ok (.iconst 4, 1) := by decide +kernel
theorem dMO_meant_42 : decode prog_10_method_16_code 42 = .ok (.irem, 1) := by decide +kernel
theorem dMO_meant_43 : decode prog_10_method_16_code 43 = .ok (.iconst 2, 1) := by decide +kernel
theorem dMO_meant_44 : decode prog_10_method_16_code 44 = .ok (.if_icmp .eq 7, 3) := by decide +kernel
theorem dMO_meant_47 : decode prog_10_method_16_code 47 = .ok (.iload_n 2, 1) := by decide +kernel
theorem dMO_meant_48 : decode prog_10_method_16_code 48 = .ok (.ifCond .ne 8, 3) := by decide +kernel
theorem dMO_meant_51 : decode prog_10_method_16_code 51 = .ok (.aload_n 0, 1) := by decide +kernel
theorem dMO_meant_52 : decode prog_10_method_16_code 52 = .ok (.iconst 4, 1) := by decide +kernel
theorem dMO_meant_53 : decode prog_10_method_16_code 53 = .ok (.invokevirtual 75, 3) := by decide +kernel
theorem dMO_meant_56 : decode prog_10_method_16_code 56 = .ok (.iload_n 2, 1) := by decide +kernel
theorem dMO_meant_57 : decode prog_10_method_16_code 57 = .ok (.ireturn, 1) := by decide +kernel
theorem dMO_take_0 : decode prog_10_method_14_code 0 = .ok (.iload_n 1, 1) := by decide +kernel
theorem dMO_take_1 : decode prog_10_method_14_code 1 = .ok (.istore_n 2, 1) := by decide +kernel
theorem dMO_take_2 : decode prog_10_method_14_code 2 = .ok (.aload_n 0, 1) := by decide +kernel
theorem dMO_take_3 : decode prog_10_method_14_code 3 = .ok (.bipush 16, 2) := by decide +kernel
theorem dMO_take_5 : decode prog_10_method_14_code 5 = .ok (.iload_n 2, 1) := by decide +kernel
theorem dMO_take_6 : decode prog_10_method_14_code 6 = .ok (.iadd, 1) := by decide +kernel
theorem dMO_take_7 : decode prog_10_method_14_code 7 = .ok (.invokevirtual 85, 3) := by decide +kernel
theorem dMO_take_10 : decode prog_10_method_14_code 10 = .ok (.istore_n 3, 1) := by decide +kernel
theorem dMO_take_11 : decode prog_10_method_14_code 11 = .ok (.aload_n 0, 1) := by decide +kernel
theorem dMO_take_12 : decode prog_10_method_14_code 12 = .ok (.getfield 68, 3) := by decide +kernel
theorem dMO_take_15 : decode prog_10_method_14_code 15 = .ok (.ifCond .ne 28, 3) := by decide +kernel
theorem dMO_take_18 : decode prog_10_method_14_code 18 = .ok (.iload_n 3, 1) := by decide +kernel
theorem dMO_take_19 : decode prog_10_method_14_code 19 = .ok (.ifCond .ne 24, 3) := by decide +kernel
theorem dMO_take_22 : decode prog_10_method_14_code 22 = .ok (.iload_n 2, 1) := by decide +kernel
theorem dMO_take_23 : decode prog_10_method_14_code 23 = .ok (.bipush 7, 2) := by decide +kernel
theorem dMO_take_25 : decode prog_10_method_14_code 25 = .ok (.if_icmp .ge 18, 3) := by decide +kernel
theorem dMO_take_28 : decode prog_10_method_14_code 28 = .ok (.iinc 2 1, 3) := by decide +kernel
theorem dMO_take_31 : decode prog_10_method_14_code 31 = .ok (.aload_n 0, 1) := by decide +kernel
theorem dMO_take_32 : decode prog_10_method_14_code 32 = .ok (.bipush 16, 2) := by decide +kernel
theorem dMO_take_34 : decode prog_10_method_14_code 34 = .ok (.iload_n 2, 1) := by decide +kernel
theorem dMO_take_35 : decode prog_10_method_14_code 35 = .ok (.iadd, 1) := by decide +kernel
theorem dMO_take_36 : decode prog_10_method_14_code 36 = .ok (.invokevirtual 85, 3) := by decide +kernel
theorem dMO_take_39 : decode prog_10_method_14_code 39 = .ok (.istore_n 3, 1) := by decide +kernel
theorem dMO_take_40 : decode prog_10_method_14_code 40 = .ok (.goto (-29), 3) := by decide +kernel
theorem dMO_take_43 : decode prog_10_method_14_code 43 = .ok (.aload_n 0, 1) := by decide +kernel
theorem dMO_take_44 : decode prog_10_method_14_code 44 = .ok (.getfield 68, 3) := by decide +kernel
theorem dMO_take_47 : decode prog_10_method_14_code 47 = .ok (.ifCond .ne 12, 3) := by decide +kernel
theorem dMO_take_50 : decode prog_10_method_14_code 50 = .ok (.iload_n 3, 1) := by decide +kernel
theorem dMO_take_51 : decode prog_10_method_14_code 51 = .ok (.ifCond .ne 8, 3) := by decide +kernel
theorem dMO_take_54 : decode prog_10_method_14_code 54 = .ok (.aload_n 0, 1) := by decide +kernel
theorem dMO_take_55 : decode prog_10_method_14_code 55 = .ok (.iconst 3, 1) := by decide +kernel
theorem dMO_take_56 : decode prog_10_method_14_code 56 = .ok (.invokevirtual 75, 3) := by decide +kernel
theorem dMO_take_59 : decode prog_10_method_14_code 59 = .ok (.aload_n 0, 1) := by decide +kernel
theorem dMO_take_60 : decode prog_10_method_14_code 60 = .ok (.iload_n 3, 1) := by decide +kernel
theorem dMO_take_61 : decode prog_10_method_14_code 61 = .ok (.invokevirtual 85, 3) := by decide +kernel
theorem dMO_take_64 : decode prog_10_method_14_code 64 = .ok (.istore 4, 2) := by decide +kernel
theorem dMO_take_66 : decode prog_10_method_14_code 66 = .ok (.aload_n 0, 1) := by decide +kernel
theorem dMO_take_67 : decode prog_10_method_14_code 67 = .ok (.bipush 16, 2) := by decide +kernel
theorem dMO_take_69 : decode prog_10_method_14_code 69 = .ok (.iload_n 2, 1) := by decide +kernel
theorem dMO_take_70 : decode prog_10_method_14_code 70 = .ok (.iadd, 1) := by decide +kernel
theorem dMO_take_71 : decode prog_10_method_14_code 71 = .ok (.iload 4, 2) := by decide +kernel
theorem dMO_take_73 : decode prog_10_method_14_code 73 = .ok (.invokevirtual 103, 3) := by decide +kernel
theorem dMO_take_76 : decode prog_10_method_14_code 76 = .ok (.aload_n 0, 1) := by decide +kernel
theorem dMO_take_77 : decode prog_10_method_14_code 77 = .ok (.iload_n 3, 1) := by decide +kernel
theorem dMO_take_78 : decode prog_10_method_14_code 78 = .ok (.iconst 3, 1) := by decide +kernel
theorem dMO_take_79 : decode prog_10_method_14_code 79 = .ok (.iadd, 1) := by decide +kernel
theorem dMO_take_80 : decode prog_10_method_14_code 80 = .ok (.iload_n 2, 1) := by decide +kernel
theorem dMO_take_81 : decode prog_10_method_14_code 81 = .ok (.invokevirtual 103, 3) := by decide +kernel
theorem dMO_take_84 : decode prog_10_method_14_code 84 = .ok (.iload_n 3, 1) := by decide +kernel
theorem dMO_take_85 : decode prog_10_method_14_code 85 = .ok (.ireturn, 1) := by decide +kernel
theorem dMO_called_0 : decode prog_10_method_17_code 0 = .ok (.aload_n 0, 1) := by decide +kernel
theorem dMO_called_1 : decode prog_10_method_17_code 1 = .ok (.iload_n 1, 1) := by decide +kernel
theorem dMO_called_2 : decode prog_10_method_17_code 2 = .ok (.invokevirtual 107, 3) := by decide +kernel
theorem dMO_called_5 : decode prog_10_method_17_code 5 = .ok (.istore_n 3, 1) := by decide +kernel
theorem dMO_called_6 : decode prog_10_method_17_code 6 = .ok (.aload_n 0, 1) := by decide +kernel
theorem dMO_called_7 : decode prog_10_method_17_code 7 = .ok (.getfield 68, 3) := by decide +kernel
theorem dMO_called_10 : decode prog_10_method_17_code 10 = .ok (.ifCond .gt 9, 3) := by decide +kernel
theorem dMO_called_13 : decode prog_10_method_17_code 13 = .ok (.iload_n 3, 1) := by decide +kernel
theorem dMO_called_14 : decode prog_10_method_17_code 14 = .ok (.iconst 4, 1) := by decide +kernel
theorem dMO_called_15 : decode prog_10_method_17_code 15 = .ok (.irem, 1) := by decide +kernel
theorem dMO_called_16 : decode prog_10_method_17_code 16 = .ok (.ifCond .ne 5, 3) := by decide +kernel
theorem dMO_called_19 : decode prog_10_method_17_code 19 = .ok (.iload_n 3, 1) := by decide +kernel
theorem dMO_called_20 : decode prog_10_method_17_code 20 = .ok (.ireturn, 1) := by decide +kernel
theorem dMO_called_21 : decode prog_10_method_17_code 21 = .ok (.iload_n 3, 1) := by decide +kernel
theorem dMO_called_22 : decode prog_10_method_17_code 22 = .ok (.bipush 32, 2) := by decide +kernel
theorem dMO_called_24 : decode prog_10_method_17_code 24 = .ok (.idiv, 1) := by decide +kernel
theorem dMO_called_25 : decode prog_10_method_17_code 25 = .ok (.bipush 16, 2) := by decide +kernel
theorem dMO_called_27 : decode prog_10_method_17_code 27 = .ok (.irem, 1) := by decide +kernel
theorem dMO_called_28 : decode prog_10_method_17_code 28 = .ok (.istore 4, 2) := by decide +kernel
theorem dMO_called_30 : decode prog_10_method_17_code 30 = .ok (.aload_n 0, 1) := by decide +kernel
theorem dMO_called_31 : decode prog_10_method_17_code 31 = .ok (.aload_n 0, 1) := by decide +kernel
theorem dMO_called_32 : decode prog_10_method_17_code 32 = .ok (.bipush 32, 2) := by decide +kernel
theorem dMO_called_34 : decode prog_10_method_17_code 34 = .ok (.iload 4, 2) := by decide +kernel
theorem dMO_called_36 : decode prog_10_method_17_code 36 = .ok (.iadd, 1) := by decide +kernel
theorem dMO_called_37 : decode prog_10_method_17_code 37 = .ok (.invokevirtual 85, 3) := by decide +kernel
theorem dMO_called_40 : decode prog_10_method_17_code 40 = .ok (.invokevirtual 85, 3) := by decide +kernel
theorem dMO_called_43 : decode prog_10_method_17_code 43 = .ok (.istore 5, 2) := by decide +kernel
theorem dMO_called_45 : decode prog_10_method_17_code 45 = .ok (.aload_n 0, 1) := by decide +kernel
theorem dMO_called_46 : decode prog_10_method_17_code 46 = .ok (.iload 5, 2) := by decide +kernel
theorem dMO_called_48 : decode prog_10_method_17_code 48 = .ok (.iload_n 3, 1) := by decide +kernel
theorem dMO_called_49 : decode prog_10_method_17_code 49 = .ok (.iconst 2, 1) := by decide +kernel
theorem dMO_called_50 : decode prog_10_method_17_code 50 = .ok (.idiv, 1) := by decide +kernel
theorem dMO_called_51 : decode prog_10_method_17_code 51 = .ok (.bipush 16, 2) := by decide +kernel
theorem dMO_called_53 : decode prog_10_method_17_code 53 = .ok (.irem, 1) := by decide +kernel
theorem dMO_called_54 : decode prog_10_method_17_code 54 = .ok (.iadd, 1) := by decide +kernel
theorem dMO_called_55 : decode prog_10_method_17_code 55 = .ok (.invokevirtual 85, 3) := by decide +kernel
theorem dMO_called_58 : decode prog_10_method_17_code 58 = .ok (.istore 6, 2) := by decide +kernel
theorem dMO_called_60 : decode prog_10_method_17_code 60 = .ok (.aload_n 0, 1) := by decide +kernel
theorem dMO_called_61 : decode prog_10_method_17_code 61 = .ok (.iload 5, 2) := by decide +kernel
theorem dMO_called_63 : decode prog_10_method_17_code 63 = .ok (.iload 6, 2) := by decide +kernel
theorem dMO_called_65 : decode prog_10_method_17_code 65 = .ok (.invokevirtual 94, 3) := by decide +kernel
theorem dMO_called_68 : decode prog_10_method_17_code 68 = .ok (.bipush 7, 2) := by decide +kernel
theorem dMO_called_70 : decode prog_10_method_17_code 70 = .ok (.iand, 1) := by decide +kernel
theorem dMO_called_71 : decode prog_10_method_17_code 71 = .ok (.istore 7, 2) := by decide +kernel
theorem dMO_called_73 : decode prog_10_method_17_code 73 = .ok (.aload_n 0, 1) := by decide +kernel
theorem dMO_called_74 : decode prog_10_method_17_code 74 = .ok (.iload 7, 2) := by decide +kernel
theorem dMO_called_76 : decode prog_10_method_17_code 76 = .ok (.invokevirtual 110, 3) := by decide +kernel
theorem dMO_called_79 : decode prog_10_method_17_code 79 = .ok (.istore 8, 2) := by decide +kernel
theorem dMO_called_81 : decode prog_10_method_17_code 81 = .ok (.aload_n 0, 1) := by decide +kernel
theorem dMO_called_82 : decode prog_10_method_17_code 82 = .ok (.iload 8, 2) := by decide +kernel
theorem dMO_called_84 : decode prog_10_method_17_code 84 = .ok (.iload_n 2, 1) := by decide +kernel
theorem dMO_called_85 : decode prog_10_method_17_code 85 = .ok (.invokevirtual 103, 3) := by decide +kernel
theorem dMO_called_88 : decode prog_10_method_17_code 88 = .ok (.aload_n 0, 1) := by decide +kernel
theorem dMO_called_89 : decode prog_10_method_17_code 89 = .ok (.iload 8, 2) := by decide +kernel
theorem dMO_called_91 : decode prog_10_method_17_code 91 = .ok (.iconst 1, 1) := by decide +kernel
theorem dMO_called_92 : decode prog_10_method_17_code 92 = .ok (.iadd, 1) := by decide +kernel
theorem dMO_called_93 : decode prog_10_method_17_code 93 = .ok (.iload 4, 2) := by decide +kernel
theorem dMO_called_95 : decode prog_10_method_17_code 95 = .ok (.invokevirtual 103, 3) := by decide +kernel
theorem dMO_called_98 : decode prog_10_method_17_code 98 = .ok (.aload_n 0, 1) := by decide +kernel
theorem dMO_called_99 : decode prog_10_method_17_code 99 = .ok (.iload 8, 2) := by decide +kernel
theorem dMO_called_101 : decode prog_10_method_17_code 101 = .ok (.iconst 2, 1) := by decide +kernel
theorem dMO_called_102 : decode prog_10_method_17_code 102 = .ok (.iadd, 1) := by decide +kernel
theorem dMO_called_103 : decode prog_10_method_17_code 103 = .ok (.iload 6, 2) := by decide +kernel
theorem dMO_called_105 : decode prog_10_method_17_code 105 = .ok (.iconst 1, 1) := by decide +kernel
theorem dMO_called_106 : decode prog_10_method_17_code 106 = .ok (.iadd, 1) := by decide +kernel
theorem dMO_called_107 : decode prog_10_method_17_code 107 = .ok (.invokevirtual 103, 3) := by decide +kernel
theorem dMO_called_110 : decode prog_10_method_17_code 110 = .ok (.iload 8, 2) := by decide +kernel
theorem dMO_called_112 : decode prog_10_method_17_code 112 = .ok (.ireturn, 1) := by decide +kernel
theorem dMO_call_0 : decode prog_10_method_18_code 0 = .ok (.aload_n 0, 1) := by decide +kernel
theorem dMO_call_1 : decode prog_10_method_18_code 1 = .ok (.getfield 29, 3) := by decide +kernel
theorem dMO_call_4 : decode prog_10_method_18_code 4 = .ok (.aload_n 0, 1) := by decide +kernel
theorem dMO_call_5 : decode prog_10_method_18_code 5 = .ok (.getfield 113, 3) := by decide +kernel
theorem dMO_call_8 : decode prog_10_method_18_code 8 = .ok (.iaload, 1) := by decide +kernel
theorem dMO_call_9 : decode prog_10_method_18_code 9 = .ok (.istore_n 2, 1) := by decide +kernel
theorem dMO_call_10 : decode prog_10_method_18_code 10 = .ok (.aload_n 0, 1) := by decide +kernel
theorem dMO_call_11 : decode prog_10_method_18_code 11 = .ok (.iload_n 2, 1) := by decide +kernel
theorem dMO_call_12 : decode prog_10_method_18_code 12 = .ok (.iconst 2, 1) := by decide +kernel
theorem dMO_call_13 : decode prog_10_method_18_code 13 = .ok (.iadd, 1) := by decide +kernel
theorem dMO_call_14 : decode prog_10_method_18_code 14 = .ok (.aload_n 0, 1) := by decide +kernel
theorem dMO_call_15 : decode prog_10_method_18_code 15 = .ok (.getfield 91, 3) := by decide +kernel
theorem dMO_call_18 : decode prog_10_method_18_code 18 = .ok (.invokevirtual 103, 3) := by decide +kernel
theorem dMO_call_21 : decode prog_10_method_18_code 21 = .ok (.aload_n 0, 1) := by decide +kernel
theorem dMO_call_22 : decode prog_10_method_18_code 22 = .ok (.iload_n 1, 1) := by decide +kernel
theorem dMO_call_23 : decode prog_10_method_18_code 23 = .ok (.iload_n 2, 1) := by decide +kernel
theorem dMO_call_24 : decode prog_10_method_18_code 24 = .ok (.invokevirtual 116, 3) := by decide +kernel
theorem dMO_call_27 : decode prog_10_method_18_code 27 = .ok (.istore_n 3, 1) := by decide +kernel
theorem dMO_call_28 : decode prog_10_method_18_code 28 = .ok (.aload_n 0, 1) := by decide +kernel
theorem dMO_call_29 : decode prog_10_method_18_code 29 = .ok (.getfield 68, 3) := by decide +kernel
theorem dMO_call_32 : decode prog_10_method_18_code 32 = .ok (.ifCond .ne 13, 3) := by decide +kernel
theorem dMO_call_35 : decode prog_10_method_18_code 35 = .ok (.aload_n 0, 1) := by decide +kernel
theorem dMO_call_36 : decode prog_10_method_18_code 36 = .ok (.getfield 29, 3) := by decide +kernel
theorem dMO_call_39 : decode prog_10_method_18_code 39 = .ok (.aload_n 0, 1) := by decide +kernel
theorem dMO_call_40 : decode prog_10_method_18_code 40 = .ok (.getfield 113, 3) := by decide +kernel
theorem dMO_call_43 : decode prog_10_method_18_code 43 = .ok (.iload_n 3, 1) := by decide +kernel
theorem dMO_call_44 : decode prog_10_method_18_code 44 = .ok (.iastore, 1) := by decide +kernel
theorem dMO_call_45 : decode prog_10_method_18_code 45 = .ok (.return_, 1) := by decide +kernel
theorem dMO_give_0 : decode prog_10_method_15_code 0 = .ok (.aload_n 0, 1) := by decide +kernel
theorem dMO_give_1 : decode prog_10_method_15_code 1 = .ok (.iload_n 1, 1) := by decide +kernel
theorem dMO_give_2 : decode prog_10_method_15_code 2 = .ok (.iconst 3, 1) := by decide +kernel
theorem dMO_give_3 : decode prog_10_method_15_code 3 = .ok (.iadd, 1) := by decide +kernel
theorem dMO_give_4 : decode prog_10_method_15_code 4 = .ok (.invokevirtual 85, 3) := by decide +kernel
theorem dMO_give_7 : decode prog_10_method_15_code 7 = .ok (.bipush 7, 2) := by decide +kernel
theorem dMO_give_9 : decode prog_10_method_15_code 9 = .ok (.iand, 1) := by decide +kernel
theorem dMO_give_10 : decode prog_10_method_15_code 10 = .ok (.istore_n 2, 1) := by decide +kernel
theorem dMO_give_11 : decode prog_10_method_15_code 11 = .ok (.aload_n 0, 1) := by decide +kernel
theorem dMO_give_12 : decode prog_10_method_15_code 12 = .ok (.bipush 16, 2) := by decide +kernel
theorem dMO_give_14 : decode prog_10_method_15_code 14 = .ok (.iload_n 2, 1) := by decide +kernel
theorem dMO_give_15 : decode prog_10_method_15_code 15 = .ok (.iadd, 1) := by decide +kernel
theorem dMO_give_16 : decode prog_10_method_15_code 16 = .ok (.invokevirtual 85, 3) := by decide +kernel
theorem dMO_give_19 : decode prog_10_method_15_code 19 = .ok (.istore_n 3, 1) := by decide +kernel
theorem dMO_give_20 : decode prog_10_method_15_code 20 = .ok (.aload_n 0, 1) := by decide +kernel
theorem dMO_give_21 : decode prog_10_method_15_code 21 = .ok (.iload_n 1, 1) := by decide +kernel
theorem dMO_give_22 : decode prog_10_method_15_code 22 = .ok (.iload_n 3, 1) := by decide +kernel
theorem dMO_give_23 : decode prog_10_method_15_code 23 = .ok (.invokevirtual 103, 3) := by decide +kernel
theorem dMO_give_26 : decode prog_10_method_15_code 26 = .ok (.aload_n 0, 1) := by decide +kernel
theorem dMO_give_27 : decode prog_10_method_15_code 27 = .ok (.bipush 16, 2) := by decide +kernel
theorem dMO_give_29 : decode prog_10_method_15_code 29 = .ok (.iload_n 2, 1) := by decide +kernel
theorem dMO_give_30 : decode prog_10_method_15_code 30 = .ok (.iadd, 1) := by decide +kernel
theorem dMO_give_31 : decode prog_10_method_15_code 31 = .ok (.iload_n 1, 1) := by decide +kernel
theorem dMO_give_32 : decode prog_10_method_15_code 32 = .ok (.invokevirtual 103, 3) := by decide +kernel
theorem dMO_give_35 : decode prog_10_method_15_code 35 = .ok (.return_, 1) := by decide +kernel
theorem dMO_giveBack_0 : decode prog_10_method_19_code 0 = .ok (.aload_n 0, 1) := by decide +kernel
theorem dMO_giveBack_1 : decode prog_10_method_19_code 1 = .ok (.getfield 29, 3) := by decide +kernel
theorem dMO_giveBack_4 : decode prog_10_method_19_code 4 = .ok (.aload_n 0, 1) := by decide +kernel
theorem dMO_giveBack_5 : decode prog_10_method_19_code 5 = .ok (.getfield 113, 3) := by decide +kernel
theorem dMO_giveBack_8 : decode prog_10_method_19_code 8 = .ok (.iaload, 1) := by decide +kernel
theorem dMO_giveBack_9 : decode prog_10_method_19_code 9 = .ok (.istore_n 1, 1) := by decide +kernel
theorem dMO_giveBack_10 : decode prog_10_method_19_code 10 = .ok (.aload_n 0, 1) := by decide +kernel
theorem dMO_giveBack_11 : decode prog_10_method_19_code 11 = .ok (.iload_n 1, 1) := by decide +kernel
theorem dMO_giveBack_12 : decode prog_10_method_19_code 12 = .ok (.invokevirtual 85, 3) := by decide +kernel
theorem dMO_giveBack_15 : decode prog_10_method_19_code 15 = .ok (.istore_n 2, 1) := by decide +kernel
theorem dMO_giveBack_16 : decode prog_10_method_19_code 16 = .ok (.aload_n 0, 1) := by decide +kernel
theorem dMO_giveBack_17 : decode prog_10_method_19_code 17 = .ok (.iload_n 1, 1) := by decide +kernel
theorem dMO_giveBack_18 : decode prog_10_method_19_code 18 = .ok (.invokevirtual 119, 3) := by decide +kernel
theorem dMO_giveBack_21 : decode prog_10_method_19_code 21 = .ok (.aload_n 0, 1) := by decide +kernel
theorem dMO_giveBack_22 : decode prog_10_method_19_code 22 = .ok (.getfield 68, 3) := by decide +kernel
theorem dMO_giveBack_25 : decode prog_10_method_19_code 25 = .ok (.ifCond .ne 18, 3) := by decide +kernel
theorem dMO_giveBack_28 : decode prog_10_method_19_code 28 = .ok (.iload_n 2, 1) := by decide +kernel
theorem dMO_giveBack_29 : decode prog_10_method_19_code 29 = .ok (.ifCond .ne 14, 3) := by decide +kernel
theorem dMO_giveBack_32 : decode prog_10_method_19_code 32 = .ok (.aload_n 0, 1) := by decide +kernel
theorem dMO_giveBack_33 : decode prog_10_method_19_code 33 = .ok (.getfield 23, 3) := by decide +kernel
theorem dMO_giveBack_36 : decode prog_10_method_19_code 36 = .ok (.aload_n 0, 1) := by decide +kernel
theorem dMO_giveBack_37 : decode prog_10_method_19_code 37 = .ok (.getfield 113, 3) := by decide +kernel
theorem dMO_giveBack_40 : decode prog_10_method_19_code 40 = .ok (.iconst 0, 1) := by decide +kernel
theorem dMO_giveBack_41 : decode prog_10_method_19_code 41 = .ok (.iastore, 1) := by decide +kernel
theorem dMO_giveBack_42 : decode prog_10_method_19_code 42 = .ok (.return_, 1) := by decide +kernel
theorem dMO_giveBack_43 : decode prog_10_method_19_code 43 = .ok (.aload_n 0, 1) := by decide +kernel
theorem dMO_giveBack_44 : decode prog_10_method_19_code 44 = .ok (.iload_n 2, 1) := by decide +kernel
theorem dMO_giveBack_45 : decode prog_10_method_19_code 45 = .ok (.iconst 0, 1) := by decide +kernel
theorem dMO_giveBack_46 : decode prog_10_method_19_code 46 = .ok (.invokevirtual 116, 3) := by decide +kernel
theorem dMO_giveBack_49 : decode prog_10_method_19_code 49 = .ok (.istore_n 3, 1) := by decide +kernel
theorem dMO_giveBack_50 : decode prog_10_method_19_code 50 = .ok (.aload_n 0, 1) := by decide +kernel
theorem dMO_giveBack_51 : decode prog_10_method_19_code 51 = .ok (.getfield 68, 3) := by decide +kernel
theorem dMO_giveBack_54 : decode prog_10_method_19_code 54 = .ok (.ifCond .ne 13, 3) := by decide +kernel
theorem dMO_giveBack_57 : decode prog_10_method_19_code 57 = .ok (.aload_n 0, 1) := by decide +kernel
theorem dMO_giveBack_58 : decode prog_10_method_19_code 58 = .ok (.getfield 29, 3) := by decide +kernel
theorem dMO_giveBack_61 : decode prog_10_method_19_code 61 = .ok (.aload_n 0, 1) := by decide +kernel
theorem dMO_giveBack_62 : decode prog_10_method_19_code 62 = .ok (.getfield 113, 3) := by decide +kernel
theorem dMO_giveBack_65 : decode prog_10_method_19_code 65 = .ok (.iload_n 3, 1) := by decide +kernel
theorem dMO_giveBack_66 : decode prog_10_method_19_code 66 = .ok (.iastore, 1) := by decide +kernel
theorem dMO_giveBack_67 : decode prog_10_method_19_code 67 = .ok (.return_, 1) := by decide +kernel
theorem dMO_leastFree_0 : decode prog_10_method_20_code 0 = .ok (.iconst 0, 1) := by decide +kernel
theorem dMO_leastFree_1 : decode prog_10_method_20_code 1 = .ok (.istore_n 1, 1) := by decide +kernel
theorem dMO_leastFree_2 : decode prog_10_method_20_code 2 = .ok (.iload_n 1, 1) := by decide +kernel
theorem dMO_leastFree_3 : decode prog_10_method_20_code 3 = .ok (.bipush 6, 2) := by decide +kernel
theorem dMO_leastFree_5 : decode prog_10_method_20_code 5 = .ok (.if_icmp .ge 18, 3) := by decide +kernel
theorem dMO_leastFree_8 : decode prog_10_method_20_code 8 = .ok (.aload_n 0, 1) := by decide +kernel
theorem dMO_leastFree_9 : decode prog_10_method_20_code 9 = .ok (.getfield 23, 3) := by decide +kernel
theorem dMO_leastFree_12 : decode prog_10_method_20_code 12 = .ok (.iload_n 1, 1) := by decide +kernel
theorem dMO_leastFree_13 : decode prog_10_method_20_code 13 = .ok (.iaload, 1) := by decide +kernel
theorem dMO_leastFree_14 : decode prog_10_method_20_code 14 = .ok (.ifCond .eq 9, 3) := by decide +kernel
theorem dMO_leastFree_17 : decode prog_10_method_20_code 17 = .ok (.iinc 1 1, 3) := by decide +kernel
theorem dMO_leastFree_20 : decode prog_10_method_20_code 20 = .ok (.goto (-18), 3) := by decide +kernel
theorem dMO_leastFree_23 : decode prog_10_method_20_code 23 = .ok (.iload_n 1, 1) := by decide +kernel
theorem dMO_leastFree_24 : decode prog_10_method_20_code 24 = .ok (.bipush 6, 2) := by decide +kernel
theorem dMO_leastFree_26 : decode prog_10_method_20_code 26 = .ok (.if_icmp .ge 7, 3) := by decide +kernel
theorem dMO_leastFree_29 : decode prog_10_method_20_code 29 = .ok (.iload_n 1, 1) := by decide +kernel
theorem dMO_leastFree_30 : decode prog_10_method_20_code 30 = .ok (.goto 4, 3) := by decide +kernel
theorem dMO_leastFree_33 : decode prog_10_method_20_code 33 = .ok (.iconst (-1), 1) := by decide +kernel
theorem dMO_leastFree_34 : decode prog_10_method_20_code 34 = .ok (.ireturn, 1) := by decide +kernel
theorem dMO_begun_0 : decode prog_10_method_26_code 0 = .ok (.aload_n 0, 1) := by decide +kernel
theorem dMO_begun_1 : decode prog_10_method_26_code 1 = .ok (.iload_n 1, 1) := by decide +kernel
theorem dMO_begun_2 : decode prog_10_method_26_code 2 = .ok (.invokevirtual 107, 3) := by decide +kernel
theorem dMO_begun_5 : decode prog_10_method_26_code 5 = .ok (.istore_n 2, 1) := by decide +kernel
theorem dMO_begun_6 : decode prog_10_method_26_code 6 = .ok (.aload_n 0, 1) := by decide +kernel
theorem dMO_begun_7 : decode prog_10_method_26_code 7 = .ok (.getfield 68, 3) := by decide +kernel
theorem dMO_begun_10 : decode prog_10_method_26_code 10 = .ok (.ifCond .ne 15, 3) := by decide +kernel
theorem dMO_begun_13 : decode prog_10_method_26_code 13 = .ok (.iload_n 2, 1) := by decide +kernel
theorem dMO_begun_14 : decode prog_10_method_26_code 14 = .ok (.iconst 4, 1) := by decide +kernel
theorem dMO_begun_15 : decode prog_10_method_26_code 15 = .ok (.irem, 1) := by decide +kernel
theorem dMO_begun_16 : decode prog_10_method_26_code 16 = .ok (.ifCond .ne 9, 3) := by decide +kernel
theorem dMO_begun_19 : decode prog_10_method_26_code 19 = .ok (.aload_n 0, 1) := by decide +kernel
theorem dMO_begun_20 : decode prog_10_method_26_code 20 = .ok (.bipush 8, 2) := by decide +kernel
theorem dMO_begun_22 : decode prog_10_method_26_code 22 = .ok (.invokevirtual 75, 3) := by decide +kernel
theorem dMO_begun_25 : decode prog_10_method_26_code 25 = .ok (.aload_n 0, 1) := by decide +kernel
theorem dMO_begun_26 : decode prog_10_method_26_code 26 = .ok (.getfield 68, 3) := by decide +kernel
theorem dMO_begun_29 : decode prog_10_method_26_code 29 = .ok (.ifCond .le 7, 3) := by decide +kernel
theorem dMO_begun_32 : decode prog_10_method_26_code 32 = .ok (.iconst 0, 1) := by decide +kernel
theorem dMO_begun_33 : decode prog_10_method_26_code 33 = .ok (.goto 9, 3) := by decide +kernel
theorem dMO_begun_36 : decode prog_10_method_26_code 36 = .ok (.aload_n 0, 1) := by decide +kernel
theorem dMO_begun_37 : decode prog_10_method_26_code 37 = .ok (.iload_n 2, 1) := by decide +kernel
theorem dMO_begun_38 : decode prog_10_method_26_code 38 = .ok (.iconst 0, 1) := by decide +kernel
theorem dMO_begun_39 : decode prog_10_method_26_code 39 = .ok (.invokevirtual 116, 3) := by decide +kernel
theorem dMO_begun_42 : decode prog_10_method_26_code 42 = .ok (.ireturn, 1) := by decide +kernel
theorem dMO_fork_0 : decode prog_10_method_34_code 0 = .ok (.aload_n 0, 1) := by decide +kernel
theorem dMO_fork_1 : decode prog_10_method_34_code 1 = .ok (.invokevirtual 194, 3) := by decide +kernel
theorem dMO_fork_4 : decode prog_10_method_34_code 4 = .ok (.istore_n 1, 1) := by decide +kernel
theorem dMO_fork_5 : decode prog_10_method_34_code 5 = .ok (.aload_n 0, 1) := by decide +kernel
theorem dMO_fork_6 : decode prog_10_method_34_code 6 = .ok (.invokevirtual 138, 3) := by decide +kernel
theorem dMO_fork_9 : decode prog_10_method_34_code 9 = .ok (.istore_n 2, 1) := by decide +kernel
theorem dMO_fork_10 : decode prog_10_method_34_code 10 = .ok (.aload_n 0, 1) := by decide +kernel
theorem dMO_fork_11 : decode prog_10_method_34_code 11 = .ok (.invokevirtual 138, 3) := by decide +kernel
theorem dMO_fork_14 : decode prog_10_method_34_code 14 = .ok (.istore_n 3, 1) := by decide +kernel
theorem dMO_fork_15 : decode prog_10_method_34_code 15 = .ok (.aload_n 0, 1) := by decide +kernel
theorem dMO_fork_16 : decode prog_10_method_34_code 16 = .ok (.getfield 68, 3) := by decide +kernel
theorem dMO_fork_19 : decode prog_10_method_34_code 19 = .ok (.ifCond .ne 13, 3) := by decide +kernel
theorem dMO_fork_22 : decode prog_10_method_34_code 22 = .ok (.iload_n 1, 1) := by decide +kernel
theorem dMO_fork_23 : decode prog_10_method_34_code 23 = .ok (.ifCond .ge 9, 3) := by decide +kernel
theorem dMO_fork_26 : decode prog_10_method_34_code 26 = .ok (.aload_n 0, 1) := by decide +kernel
theorem dMO_fork_27 : decode prog_10_method_34_code 27 = .ok (.bipush 8, 2) := by decide +kernel
theorem dMO_fork_29 : decode prog_10_method_34_code 29 = .ok (.invokevirtual 75, 3) := by decide +kernel
theorem dMO_fork_32 : decode prog_10_method_34_code 32 = .ok (.aload_n 0, 1) := by decide +kernel
theorem dMO_fork_33 : decode prog_10_method_34_code 33 = .ok (.getfield 68, 3) := by decide +kernel
theorem dMO_fork_36 : decode prog_10_method_34_code 36 = .ok (.ifCond .le 7, 3) := by decide +kernel
theorem dMO_fork_39 : decode prog_10_method_34_code 39 = .ok (.iconst 0, 1) := by decide +kernel
theorem dMO_fork_40 : decode prog_10_method_34_code 40 = .ok (.goto 8, 3) := by decide +kernel
theorem dMO_fork_43 : decode prog_10_method_34_code 43 = .ok (.aload_n 0, 1) := by decide +kernel
theorem dMO_fork_44 : decode prog_10_method_34_code 44 = .ok (.iload_n 2, 1) := by decide +kernel
theorem dMO_fork_45 : decode prog_10_method_34_code 45 = .ok (.invokevirtual 197, 3) := by decide +kernel
theorem dMO_fork_48 : decode prog_10_method_34_code 48 = .ok (.istore 4, 2) := by decide +kernel
theorem dMO_fork_50 : decode prog_10_method_34_code 50 = .ok (.aload_n 0, 1) := by decide +kernel
theorem dMO_fork_51 : decode prog_10_method_34_code 51 = .ok (.iload_n 1, 1) := by decide +kernel
theorem dMO_fork_52 : decode prog_10_method_34_code 52 = .ok (.putfield 200, 3) := by decide +kernel
theorem dMO_fork_55 : decode prog_10_method_34_code 55 = .ok (.aload_n 0, 1) := by decide +kernel
theorem dMO_fork_56 : decode prog_10_method_34_code 56 = .ok (.iload 4, 2) := by decide +kernel
theorem dMO_fork_58 : decode prog_10_method_34_code 58 = .ok (.putfield 203, 3) := by decide +kernel
theorem dMO_fork_61 : decode prog_10_method_34_code 61 = .ok (.aload_n 0, 1) := by decide +kernel
theorem dMO_fork_62 : decode prog_10_method_34_code 62 = .ok (.iload_n 3, 1) := by decide +kernel
theorem dMO_fork_63 : decode prog_10_method_34_code 63 = .ok (.putfield 206, 3) := by decide +kernel
theorem dMO_fork_66 : decode prog_10_method_34_code 66 = .ok (.return_, 1) := by decide +kernel
theorem dMO_block_0 : decode prog_10_method_36_code 0 = .ok (.aload_n 0, 1) := by decide +kernel
theorem dMO_block_1 : decode prog_10_method_36_code 1 = .ok (.getfield 23, 3) := by decide +kernel
theorem dMO_block_4 : decode prog_10_method_36_code 4 = .ok (.aload_n 0, 1) := by decide +kernel
theorem dMO_block_5 : decode prog_10_method_36_code 5 = .ok (.getfield 113, 3) := by decide +kernel
theorem dMO_block_8 : decode prog_10_method_36_code 8 = .ok (.iconst 2, 1) := by decide +kernel
theorem dMO_block_9 : decode prog_10_method_36_code 9 = .ok (.iastore, 1) := by decide +kernel
theorem dMO_block_10 : decode prog_10_method_36_code 10 = .ok (.aload_n 0, 1) := by decide +kernel
theorem dMO_block_11 : decode prog_10_method_36_code 11 = .ok (.getfield 38, 3) := by decide +kernel
theorem dMO_block_14 : decode prog_10_method_36_code 14 = .ok (.aload_n 0, 1) := by decide +kernel
theorem dMO_block_15 : decode prog_10_method_36_code 15 = .ok (.getfield 113, 3) := by decide +kernel
theorem dMO_block_18 : decode prog_10_method_36_code 18 = .ok (.iload_n 1, 1) := by decide +kernel
theorem dMO_block_19 : decode prog_10_method_36_code 19 = .ok (.sipush 4095, 3) := by decide +kernel
theorem dMO_block_22 : decode prog_10_method_36_code 22 = .ok (.iand, 1) := by decide +kernel
theorem dMO_block_23 : decode prog_10_method_36_code 23 = .ok (.iastore, 1) := by decide +kernel
theorem dMO_block_24 : decode prog_10_method_36_code 24 = .ok (.return_, 1) := by decide +kernel
theorem dMO_firstOf_0 : decode prog_10_method_22_code 0 = .ok (.iconst (-1), 1) := by decide +kernel
theorem dMO_firstOf_1 : decode prog_10_method_22_code 1 = .ok (.istore_n 3, 1) := by decide +kernel
theorem dMO_firstOf_2 : decode prog_10_method_22_code 2 = .ok (.iconst 0, 1) := by decide +kernel
theorem dMO_firstOf_3 : decode prog_10_method_22_code 3 = .ok (.istore 4, 2) := by decide +kernel
theorem dMO_firstOf_5 : decode prog_10_method_22_code 5 = .ok (.iload 4, 2) := by decide +kernel
theorem dMO_firstOf_7 : decode prog_10_method_22_code 7 = .ok (.bipush 6, 2) := by decide +kernel
theorem dMO_firstOf_9 : decode prog_10_method_22_code 9 = .ok (.if_icmp .ge 148, 3) := by decide +kernel
theorem dMO_firstOf_12 : decode prog_10_method_22_code 12 = .ok (.aload_n 0, 1) := by decide +kernel
theorem dMO_firstOf_13 : decode prog_10_method_22_code 13 = .ok (.getfield 23, 3) := by decide +kernel
theorem dMO_firstOf_16 : decode prog_10_method_22_code 16 = .ok (.iload 4, 2) := by decide +kernel
theorem dMO_firstOf_18 : decode prog_10_method_22_code 18 = .ok (.iaload, 1) := by decide +kernel
theorem dMO_firstOf_19 : decode prog_10_method_22_code 19 = .ok (.iload_n 1, 1) := by decide +kernel
theorem dMO_firstOf_20 : decode prog_10_method_22_code 20 = .ok (.if_icmp .ne 22, 3) := by decide +kernel
theorem dMO_firstOf_23 : decode prog_10_method_22_code 23 = .ok (.aload_n 0, 1) := by decide +kernel
theorem dMO_firstOf_24 : decode prog_10_method_22_code 24 = .ok (.getfield 38, 3) := by decide +kernel
theorem dMO_firstOf_27 : decode prog_10_method_22_code 27 = .ok (.iload 4, 2) := by decide +kernel
theorem dMO_firstOf_29 : decode prog_10_method_22_code 29 = .ok (.iaload, 1) := by decide +kernel
theorem dMO_firstOf_30 : decode prog_10_method_22_code 30 = .ok (.iload_n 2, 1) := by decide +kernel
theorem dMO_firstOf_31 : decode prog_10_method_22_code 31 = .ok (.sipush 4095, 3) := by decide +kernel
theorem dMO_firstOf_34 : decode prog_10_method_22_code 34 = .ok (.iand, 1) := by decide +kernel
theorem dMO_firstOf_35 : decode prog_10_method_22_code 35 = .ok (.if_icmp .ne 7, 3) := by decide +kernel
theorem dMO_firstOf_38 : decode prog_10_method_22_code 38 = .ok (.iconst 1, 1) := by decide +kernel
theorem dMO_firstOf_39 : decode prog_10_method_22_code 39 = .ok (.goto 4, 3) := by decide +kernel
theorem dMO_firstOf_42 : decode prog_10_method_22_code 42 = .ok (.iconst 0, 1) := by decide +kernel
theorem dMO_firstOf_43 : decode prog_10_method_22_code 43 = .ok (.istore 5, 2) := by decide +kernel
theorem dMO_firstOf_45 : decode prog_10_method_22_code 45 = .ok (.iconst 0, 1) := by decide +kernel
theorem dMO_firstOf_46 : decode prog_10_method_22_code 46 = .ok (.istore 6, 2) := by decide +kernel
theorem dMO_firstOf_48 : decode prog_10_method_22_code 48 = .ok (.iload 6, 2) := by decide +kernel
theorem dMO_firstOf_50 : decode prog_10_method_22_code 50 = .ok (.aload_n 0, 1) := by decide +kernel
theorem dMO_firstOf_51 : decode prog_10_method_22_code 51 = .ok (.getfield 126, 3) := by decide +kernel
theorem dMO_firstOf_54 : decode prog_10_method_22_code 54 = .ok (.if_icmp .ge 33, 3) := by decide +kernel
theorem dMO_firstOf_57 : decode prog_10_method_22_code 57 = .ok (.iload 5, 2) := by decide +kernel
theorem dMO_firstOf_59 : decode prog_10_method_22_code 59 = .ok (.ifCond .eq 19, 3) := by decide +kernel
theorem dMO_firstOf_62 : decode prog_10_method_22_code 62 = .ok (.aload_n 0, 1) := by decide +kernel
theorem dMO_firstOf_63 : decode prog_10_method_22_code 63 = .ok (.getfield 60, 3) := by decide +kernel
theorem dMO_firstOf_66 : decode prog_10_method_22_code 66 = .ok (.iload 6, 2) := by decide +kernel
theorem dMO_firstOf_68 : decode prog_10_method_22_code 68 = .ok (.iaload, 1) := by decide +kernel
theorem dMO_firstOf_69 : decode prog_10_method_22_code 69 = .ok (.iload 4, 2) := by decide +kernel
theorem dMO_firstOf_71 : decode prog_10_method_22_code 71 = .ok (.if_icmp .eq 7, 3) := by decide +kernel
theorem dMO_firstOf_74 : decode prog_10_method_22_code 74 = .ok (.iconst 1, 1) := by decide +kernel
theorem dMO_firstOf_75 : decode prog_10_method_22_code 75 = .ok (.goto 4, 3) := by decide +kernel
theorem dMO_firstOf_78 : decode prog_10_method_22_code 78 = .ok (.iconst 0, 1) := by decide +kernel
theorem dMO_firstOf_79 : decode prog_10_method_22_code 79 = .ok (.istore 5, 2) := by decide +kernel
theorem dMO_firstOf_81 : decode prog_10_method_22_code 81 = .ok (.iinc 6 1, 3) := by decide +kernel
theorem dMO_firstOf_84 : decode prog_10_method_22_code 84 = .ok (.goto (-36), 3) := by decide +kernel
theorem dMO_firstOf_87 : decode prog_10_method_22_code 87 = .ok (.iload 5, 2) := by decide +kernel
theorem dMO_firstOf_89 : decode prog_10_method_22_code 89 = .ok (.ifCond .ne 6, 3) := by decide +kernel
theorem dMO_firstOf_92 : decode prog_10_method_22_code 92 = .ok (.goto 59, 3) := by decide +kernel
theorem dMO_firstOf_95 : decode prog_10_method_22_code 95 = .ok (.iload_n 3, 1) := by decide +kernel
theorem dMO_firstOf_96 : decode prog_10_method_22_code 96 = .ok (.ifCond .lt 52, 3) := by decide +kernel
theorem dMO_firstOf_99 : decode prog_10_method_22_code 99 = .ok (.aload_n 0, 1) := by decide +kernel
theorem dMO_firstOf_100 : decode prog_10_method_22_code 100 = .ok (.getfield 26, 3) := by decide +kernel
theorem dMO_firstOf_103 : decode prog_10_method_22_code 103 = .ok (.iload 4, 2) := by decide +kernel
theorem dMO_firstOf_105 : decode prog_10_method_22_code 105 = .ok (.iaload, 1) := by decide +kernel
theorem dMO_firstOf_106 : decode prog_10_method_22_code 106 = .ok (.aload_n 0, 1) := by decide +kernel
theorem dMO_firstOf_107 : decode prog_10_method_22_code 107 = .ok (.getfield 26, 3) := by decide +kernel
theorem dMO_firstOf_110 : decode prog_10_method_22_code 110 = .ok (.iload_n 3, 1) := by decide +kernel
theorem dMO_firstOf_111 : decode prog_10_method_22_code 111 = .ok (.iaload, 1) := by decide +kernel
theorem dMO_firstOf_112 : decode prog_10_method_22_code 112 = .ok (.if_icmp .gt 36, 3) := by decide +kernel
theorem dMO_firstOf_115 : decode prog_10_method_22_code 115 = .ok (.aload_n 0, 1) := by decide +kernel
theorem dMO_firstOf_116 : decode prog_10_method_22_code 116 = .ok (.getfield 26, 3) := by decide +kernel
theorem dMO_firstOf_119 : decode prog_10_method_22_code 119 = .ok (.iload 4, 2) := by decide +kernel
theorem dMO_firstOf_121 : decode prog_10_method_22_code 121 = .ok (.iaload, 1) := by decide +kernel
theorem dMO_firstOf_122 : decode prog_10_method_22_code 122 = .ok (.aload_n 0, 1) := by decide +kernel
theorem dMO_firstOf_123 : decode prog_10_method_22_code 123 = .ok (.getfield 26, 3) := by decide +kernel
theorem dMO_firstOf_126 : decode prog_10_method_22_code 126 = .ok (.iload_n 3, 1) := by decide +kernel
theorem dMO_firstOf_127 : decode prog_10_method_22_code 127 = .ok (.iaload, 1) := by decide +kernel
theorem dMO_firstOf_128 : decode prog_10_method_22_code 128 = .ok (.if_icmp .ne 23, 3) := by decide +kernel
theorem dMO_firstOf_131 : decode prog_10_method_22_code 131 = .ok (.aload_n 0, 1) := by decide +kernel
theorem dMO_firstOf_132 : decode prog_10_method_22_code 132 = .ok (.getfield 47, 3) := by decide +kernel
theorem dMO_firstOf_135 : decode prog_10_method_22_code 135 = .ok (.iload 4, 2) := by decide +kernel
theorem dMO_firstOf_137 : decode prog_10_method_22_code 137 = .ok (.laload, 1) := by decide +kernel
theorem dMO_firstOf_138 : decode prog_10_method_22_code 138 = .ok (.aload_n 0, 1) := by decide +kernel
theorem dMO_firstOf_139 : decode prog_10_method_22_code 139 = .ok (.getfield 47, 3) := by decide +kernel
theorem dMO_firstOf_142 : decode prog_10_method_22_code 142 = .ok (.iload_n 3, 1) := by decide +kernel
theorem dMO_firstOf_143 : decode prog_10_method_22_code 143 = .ok (.laload, 1) := by decide +kernel
theorem dMO_firstOf_144 : decode prog_10_method_22_code 144 = .ok (.lcmp, 1) := by decide +kernel
theorem dMO_firstOf_145 : decode prog_10_method_22_code 145 = .ok (.ifCond .ge 6, 3) := by decide +kernel
theorem dMO_firstOf_148 : decode prog_10_method_22_code 148 = .ok (.iload 4, 2) := by decide +kernel
theorem dMO_firstOf_150 : decode prog_10_method_22_code 150 = .ok (.istore_n 3, 1) := by decide +kernel
theorem dMO_firstOf_151 : decode prog_10_method_22_code 151 = .ok (.iinc 4 1, 3) := by decide +kernel
theorem dMO_firstOf_154 : decode prog_10_method_22_code 154 = .ok (.goto (-149), 3) := by decide +kernel
theorem dMO_firstOf_157 : decode prog_10_method_22_code 157 = .ok (.iload_n 3, 1) := by decide +kernel
theorem dMO_firstOf_158 : decode prog_10_method_22_code 158 = .ok (.ireturn, 1) := by decide +kernel
theorem dMO_wake_0 : decode prog_10_method_23_code 0 = .ok (.aload_n 0, 1) := by decide +kernel
theorem dMO_wake_1 : decode prog_10_method_23_code 1 = .ok (.getfield 68, 3) := by decide +kernel
theorem dMO_wake_4 : decode prog_10_method_23_code 4 = .ok (.ifCond .le 7, 3) := by decide +kernel
theorem dMO_wake_7 : decode prog_10_method_23_code 7 = .ok (.iconst (-1), 1) := by decide +kernel
theorem dMO_wake_8 : decode prog_10_method_23_code 8 = .ok (.goto 9, 3) := by decide +kernel
theorem dMO_wake_11 : decode prog_10_method_23_code 11 = .ok (.aload_n 0, 1) := by decide +kernel
theorem dMO_wake_12 : decode prog_10_method_23_code 12 = .ok (.iload_n 1, 1) := by decide +kernel
theorem dMO_wake_13 : decode prog_10_method_23_code 13 = .ok (.iload_n 2, 1) := by decide +kernel
theorem dMO_wake_14 : decode prog_10_method_23_code 14 = .ok (.invokevirtual 129, 3) := by decide +kernel
theorem dMO_wake_17 : decode prog_10_method_23_code 17 = .ok (.istore_n 3, 1) := by decide +kernel
theorem dMO_wake_18 : decode prog_10_method_23_code 18 = .ok (.iload_n 3, 1) := by decide +kernel
theorem dMO_wake_19 : decode prog_10_method_23_code 19 = .ok (.ifCond .ge 5, 3) := by decide +kernel
theorem dMO_wake_22 : decode prog_10_method_23_code 22 = .ok (.iconst 0, 1) := by decide +kernel
theorem dMO_wake_23 : decode prog_10_method_23_code 23 = .ok (.ireturn, 1) := by decide +kernel
theorem dMO_wake_24 : decode prog_10_method_23_code 24 = .ok (.aload_n 0, 1) := by decide +kernel
theorem dMO_wake_25 : decode prog_10_method_23_code 25 = .ok (.getfield 60, 3) := by decide +kernel
theorem dMO_wake_28 : decode prog_10_method_23_code 28 = .ok (.aload_n 0, 1) := by decide +kernel
theorem dMO_wake_29 : decode prog_10_method_23_code 29 = .ok (.getfield 126, 3) := by decide +kernel
theorem dMO_wake_32 : decode prog_10_method_23_code 32 = .ok (.iload_n 3, 1) := by decide +kernel
theorem dMO_wake_33 : decode prog_10_method_23_code 33 = .ok (.iastore, 1) := by decide +kernel
theorem dMO_wake_34 : decode prog_10_method_23_code 34 = .ok (.aload_n 0, 1) := by decide +kernel
theorem dMO_wake_35 : decode prog_10_method_23_code 35 = .ok (.dup, 1) := by decide +kernel
theorem dMO_wake_36 : decode prog_10_method_23_code 36 = .ok (.getfield 126, 3) := by decide +kernel
theorem dMO_wake_39 : decode prog_10_method_23_code 39 = .ok (.iconst 1, 1) := by decide +kernel
theorem dMO_wake_40 : decode prog_10_method_23_code 40 = .ok (.iadd, 1) := by decide +kernel
theorem dMO_wake_41 : decode prog_10_method_23_code 41 = .ok (.putfield 126, 3) := by decide +kernel
theorem dMO_wake_44 : decode prog_10_method_23_code 44 = .ok (.iconst 1, 1) := by decide +kernel
theorem dMO_wake_45 : decode prog_10_method_23_code 45 = .ok (.ireturn, 1) := by decide +kernel
theorem dMO_exit_0 : decode prog_10_method_35_code 0 = .ok (.aload_n 0, 1) := by decide +kernel
theorem dMO_exit_1 : decode prog_10_method_35_code 1 = .ok (.iload_n 1, 1) := by decide +kernel
theorem dMO_exit_2 : decode prog_10_method_35_code 2 = .ok (.iconst 0, 1) := by decide +kernel
theorem dMO_exit_3 : decode prog_10_method_35_code 3 = .ok (.invokevirtual 103, 3) := by decide +kernel
theorem dMO_exit_6 : decode prog_10_method_35_code 6 = .ok (.aload_n 0, 1) := by decide +kernel
theorem dMO_exit_7 : decode prog_10_method_35_code 7 = .ok (.iconst 2, 1) := by decide +kernel
theorem dMO_exit_8 : decode prog_10_method_35_code 8 = .ok (.iload_n 1, 1) := by decide +kernel
theorem dMO_exit_9 : decode prog_10_method_35_code 9 = .ok (.invokevirtual 183, 3) := by decide +kernel
theorem dMO_exit_12 : decode prog_10_method_35_code 12 = .ok (.istore_n 2, 1) := by decide +kernel
theorem dMO_exit_13 : decode prog_10_method_35_code 13 = .ok (.return_, 1) := by decide +kernel
theorem dMO_two_0 : decode prog_10_method_31_code 0 = .ok (.aload_n 0, 1) := by decide +kernel
theorem dMO_two_1 : decode prog_10_method_31_code 1 = .ok (.invokevirtual 138, 3) := by decide +kernel
theorem dMO_two_4 : decode prog_10_method_31_code 4 = .ok (.istore_n 2, 1) := by decide +kernel
theorem dMO_two_5 : decode prog_10_method_31_code 5 = .ok (.aload_n 0, 1) := by decide +kernel
theorem dMO_two_6 : decode prog_10_method_31_code 6 = .ok (.invokevirtual 138, 3) := by decide +kernel
theorem dMO_two_9 : decode prog_10_method_31_code 9 = .ok (.istore_n 3, 1) := by decide +kernel
theorem dMO_two_10 : decode prog_10_method_31_code 10 = .ok (.iload_n 1, 1) := by decide +kernel
theorem dMO_two_11 : decode prog_10_method_31_code 11 = .ok (.bipush 12, 2) := by decide +kernel
theorem dMO_two_13 : decode prog_10_method_31_code 13 = .ok (.if_icmp .ne 20, 3) := by decide +kernel
theorem dMO_two_16 : decode prog_10_method_31_code 16 = .ok (.aload_n 0, 1) := by decide +kernel
theorem dMO_two_17 : decode prog_10_method_31_code 17 = .ok (.getfield 68, 3) := by decide +kernel
theorem dMO_two_20 : decode prog_10_method_31_code 20 = .ok (.ifCond .ne 13, 3) := by decide +kernel
theorem dMO_two_23 : decode prog_10_method_31_code 23 = .ok (.iload_n 2, 1) := by decide +kernel
theorem dMO_two_24 : decode prog_10_method_31_code 24 = .ok (.ifCond .ne 9, 3) := by decide +kernel
theorem dMO_two_27 : decode prog_10_method_31_code 27 = .ok (.aload_n 0, 1) := by decide +kernel
theorem dMO_two_28 : decode prog_10_method_31_code 28 = .ok (.bipush 7, 2) := by decide +kernel
theorem dMO_two_30 : decode prog_10_method_31_code 30 = .ok (.invokevirtual 75, 3) := by decide +kernel
theorem dMO_two_33 : decode prog_10_method_31_code 33 = .ok (.aload_n 0, 1) := by decide +kernel
theorem dMO_two_34 : decode prog_10_method_31_code 34 = .ok (.getfield 68, 3) := by decide +kernel
theorem dMO_two_37 : decode prog_10_method_31_code 37 = .ok (.ifCond .le 4, 3) := by decide +kernel
theorem dMO_two_40 : decode prog_10_method_31_code 40 = .ok (.return_, 1) := by decide +kernel
theorem dMO_two_41 : decode prog_10_method_31_code 41 = .ok (.iload_n 2, 1) := by decide +kernel
theorem dMO_two_42 : decode prog_10_method_31_code 42 = .ok (.invokestatic 142, 3) := by decide +kernel
theorem dMO_two_45 : decode prog_10_method_31_code 45 = .ok (.istore 4, 2) := by decide +kernel
theorem dMO_two_47 : decode prog_10_method_31_code 47 = .ok (.iload_n 1, 1) := by decide +kernel
theorem dMO_two_48 : decode prog_10_method_31_code 48 = .ok (.tableswitch 160 9 16 #[48, 58, 68, 78, 88, 98, 108, 118], 48) := by decide +kernel
theorem dMO_two_96 : decode prog_10_method_31_code 96 = .ok (.aload_n 0, 1) := by decide +kernel
theorem dMO_two_97 : decode prog_10_method_31_code 97 = .ok (.iload_n 3, 1) := by decide +kernel
theorem dMO_two_98 : decode prog_10_method_31_code 98 = .ok (.iload_n 2, 1) := by decide +kernel
theorem dMO_two_99 : decode prog_10_method_31_code 99 = .ok (.iadd, 1) := by decide +kernel
theorem dMO_two_100 : decode prog_10_method_31_code 100 = .ok (.invokevirtual 145, 3) := by decide +kernel
theorem dMO_two_103 : decode prog_10_method_31_code 103 = .ok (.goto 115, 3) := by decide +kernel
theorem dMO_two_106 : decode prog_10_method_31_code 106 = .ok (.aload_n 0, 1) := by decide +kernel
theorem dMO_two_107 : decode prog_10_method_31_code 107 = .ok (.iload_n 3, 1) := by decide +kernel
theorem dMO_two_108 : decode prog_10_method_31_code 108 = .ok (.iload_n 2, 1) := by decide +kernel
theorem dMO_two_109 : decode prog_10_method_31_code 109 = .ok (.isub, 1) := by decide +kernel
theorem dMO_two_110 : decode prog_10_method_31_code 110 = .ok (.invokevirtual 145, 3) := by decide +kernel
theorem dMO_two_113 : decode prog_10_method_31_code 113 = .ok (.goto 105, 3) := by decide +kernel
theorem dMO_two_116 : decode prog_10_method_31_code 116 = .ok (.aload_n 0, 1) := by decide +kernel
theorem dMO_two_117 : decode prog_10_method_31_code 117 = .ok (.iload_n 3, 1) := by decide +kernel
theorem dMO_two_118 : decode prog_10_method_31_code 118 = .ok (.iload_n 2, 1) := by decide +kernel
theorem dMO_two_119 : decode prog_10_method_31_code 119 = .ok (.imul, 1) := by decide +kernel
theorem dMO_two_120 : decode prog_10_method_31_code 120 = .ok (.invokevirtual 145, 3) := by decide +kernel
theorem dMO_two_123 : decode prog_10_method_31_code 123 = .ok (.goto 95, 3) := by decide +kernel
theorem dMO_two_126 : decode prog_10_method_31_code 126 = .ok (.aload_n 0, 1) := by decide +kernel
theorem dMO_two_127 : decode prog_10_method_31_code 127 = .ok (.iload_n 3, 1) := by decide +kernel
theorem dMO_two_128 : decode prog_10_method_31_code 128 = .ok (.iload_n 2, 1) := by decide +kernel
theorem dMO_two_129 : decode prog_10_method_31_code 129 = .ok (.idiv, 1) := by decide +kernel
theorem dMO_two_130 : decode prog_10_method_31_code 130 = .ok (.invokevirtual 145, 3) := by decide +kernel
theorem dMO_two_133 : decode prog_10_method_31_code 133 = .ok (.goto 85, 3) := by decide +kernel
theorem dMO_two_136 : decode prog_10_method_31_code 136 = .ok (.aload_n 0, 1) := by decide +kernel
theorem dMO_two_137 : decode prog_10_method_31_code 137 = .ok (.iload_n 3, 1) := by decide +kernel
theorem dMO_two_138 : decode prog_10_method_31_code 138 = .ok (.iload_n 2, 1) := by decide +kernel
theorem dMO_two_139 : decode prog_10_method_31_code 139 = .ok (.iand, 1) := by decide +kernel
theorem dMO_two_140 : decode prog_10_method_31_code 140 = .ok (.invokevirtual 145, 3) := by decide +kernel
theorem dMO_two_143 : decode prog_10_method_31_code 143 = .ok (.goto 75, 3) := by decide +kernel
theorem dMO_two_146 : decode prog_10_method_31_code 146 = .ok (.aload_n 0, 1) := by decide +kernel
theorem dMO_two_147 : decode prog_10_method_31_code 147 = .ok (.iload_n 3, 1) := by decide +kernel
theorem dMO_two_148 : decode prog_10_method_31_code 148 = .ok (.iload_n 2, 1) := by decide +kernel
theorem dMO_two_149 : decode prog_10_method_31_code 149 = .ok (.ior, 1) := by decide +kernel
theorem dMO_two_150 : decode prog_10_method_31_code 150 = .ok (.invokevirtual 145, 3) := by decide +kernel
theorem dMO_two_153 : decode prog_10_method_31_code 153 = .ok (.goto 65, 3) := by decide +kernel
theorem dMO_two_156 : decode prog_10_method_31_code 156 = .ok (.aload_n 0, 1) := by decide +kernel
theorem dMO_two_157 : decode prog_10_method_31_code 157 = .ok (.iload_n 3, 1) := by decide +kernel
theorem dMO_two_158 : decode prog_10_method_31_code 158 = .ok (.iload_n 2, 1) := by decide +kernel
theorem dMO_two_159 : decode prog_10_method_31_code 159 = .ok (.ixor, 1) := by decide +kernel
theorem dMO_two_160 : decode prog_10_method_31_code 160 = .ok (.invokevirtual 145, 3) := by decide +kernel
theorem dMO_two_163 : decode prog_10_method_31_code 163 = .ok (.goto 55, 3) := by decide +kernel
theorem dMO_two_166 : decode prog_10_method_31_code 166 = .ok (.aload_n 0, 1) := by decide +kernel
theorem dMO_two_167 : decode prog_10_method_31_code 167 = .ok (.iload 4, 2) := by decide +kernel
theorem dMO_two_169 : decode prog_10_method_31_code 169 = .ok (.bipush 15, 2) := by decide +kernel
theorem dMO_two_171 : decode prog_10_method_31_code 171 = .ok (.if_icmp .gt 10, 3) := by decide +kernel
theorem dMO_two_174 : decode prog_10_method_31_code 174 = .ok (.iload 4, 2) := by decide +kernel
theorem dMO_two_176 : decode prog_10_method_31_code 176 = .ok (.bipush (-15), 2) := by decide +kernel
theorem dMO_two_178 : decode prog_10_method_31_code 178 = .ok (.if_icmp .ge 7, 3) := by decide +kernel
theorem dMO_two_181 : decode prog_10_method_31_code 181 = .ok (.iconst 0, 1) := by decide +kernel
theorem dMO_two_182 : decode prog_10_method_31_code 182 = .ok (.goto 20, 3) := by decide +kernel
theorem dMO_two_185 : decode prog_10_method_31_code 185 = .ok (.iload 4, 2) := by decide +kernel
theorem dMO_two_187 : decode prog_10_method_31_code 187 = .ok (.ifCond .lt 10, 3) := by decide +kernel
theorem dMO_two_190 : decode prog_10_method_31_code 190 = .ok (.iload_n 3, 1) := by decide +kernel
theorem dMO_two_191 : decode prog_10_method_31_code 191 = .ok (.iload 4, 2) := by decide +kernel
theorem dMO_two_193 : decode prog_10_method_31_code 193 = .ok (.ishl, 1) := by decide +kernel
theorem dMO_two_194 : decode prog_10_method_31_code 194 = .ok (.goto 8, 3) := by decide +kernel
theorem dMO_two_197 : decode prog_10_method_31_code 197 = .ok (.iload_n 3, 1) := by decide +kernel
theorem dMO_two_198 : decode prog_10_method_31_code 198 = .ok (.iload 4, 2) := by decide +kernel
theorem dMO_two_200 : decode prog_10_method_31_code 200 = .ok (.ineg, 1) := by decide +kernel
theorem dMO_two_201 : decode prog_10_method_31_code 201 = .ok (.ishr, 1) := by decide +kernel
theorem dMO_two_202 : decode prog_10_method_31_code 202 = .ok (.invokevirtual 145, 3) := by decide +kernel
theorem dMO_two_205 : decode prog_10_method_31_code 205 = .ok (.goto 13, 3) := by decide +kernel
theorem dMO_two_208 : decode prog_10_method_31_code 208 = .ok (.aload_n 0, 1) := by decide +kernel
theorem dMO_two_209 : decode prog_10_method_31_code 209 = .ok (.iload_n 2, 1) := by decide +kernel
theorem dMO_two_210 : decode prog_10_method_31_code 210 = .ok (.invokevirtual 145, 3) := by decide +kernel
