theorem dX9_age_0 : decode cX9_age 0 = .ok (.iload_n 1, 1) := by decide +kernel
theorem dX9_age_1 : decode cX9_age 1 = .ok (.invokestatic 152, 3) := by decide +kernel
theorem dX9_age_4 : decode cX9_age 4 = .ok (.ifCond .eq 10, 3) := by decide +kernel
theorem dX9_age_7 : decode cX9_age 7 = .ok (.iload_n 2, 1) := by decide +kernel
theorem dX9_age_8 : decode cX9_age 8 = .ok (.invokestatic 159, 3) := by decide +kernel
theorem dX9_age_11 : decode cX9_age 11 = .ok (.ifCond .ne 5, 3) := by decide +kernel
theorem dX9_age_14 : decode cX9_age 14 = .ok (.iconst (-1), 1) := by decide +kernel
theorem dX9_age_15 : decode cX9_age 15 = .ok (.ireturn, 1) := by decide +kernel
theorem dX9_age_16 : decode cX9_age 16 = .ok (.aload_n 0, 1) := by decide +kernel
theorem dX9_age_17 : decode cX9_age 17 = .ok (.iload_n 1, 1) := by decide +kernel
theorem dX9_age_18 : decode cX9_age 18 = .ok (.invokevirtual 172, 3) := by decide +kernel
theorem dX9_age_21 : decode cX9_age 21 = .ok (.istore_n 3, 1) := by decide +kernel
theorem dX9_age_22 : decode cX9_age 22 = .ok (.iload_n 3, 1) := by decide +kernel
theorem dX9_age_23 : decode cX9_age 23 = .ok (.ifCond .ge 7, 3) := by decide +kernel
theorem dX9_age_26 : decode cX9_age 26 = .ok (.iload_n 3, 1) := by decide +kernel
theorem dX9_age_27 : decode cX9_age 27 = .ok (.goto 9, 3) := by decide +kernel
theorem dX9_age_30 : decode cX9_age 30 = .ok (.aload_n 0, 1) := by decide +kernel
theorem dX9_age_31 : decode cX9_age 31 = .ok (.iload_n 1, 1) := by decide +kernel
theorem dX9_age_32 : decode cX9_age 32 = .ok (.iload_n 2, 1) := by decide +kernel
theorem dX9_age_33 : decode cX9_age 33 = .ok (.invokevirtual 191, 3) := by decide +kernel
theorem dX9_age_36 : decode cX9_age 36 = .ok (.ireturn, 1) := by decide +kernel
theorem dX9_ageOf_0 : decode cX9_ageOf 0 = .ok (.iload_n 2, 1) := by decide +kernel
theorem dX9_ageOf_1 : decode cX9_ageOf 1 = .ok (.istore_n 3, 1) := by decide +kernel
theorem dX9_ageOf_2 : decode cX9_ageOf 2 = .ok (.iload_n 3, 1) := by decide +kernel
theorem dX9_ageOf_3 : decode cX9_ageOf 3 = .ok (.ifCond .lt 24, 3) := by decide +kernel
theorem dX9_ageOf_6 : decode cX9_ageOf 6 = .ok (.aload_n 0, 1) := by decide +kernel
theorem dX9_ageOf_7 : decode cX9_ageOf 7 = .ok (.getfield 33, 3) := by decide +kernel
theorem dX9_ageOf_10 : decode cX9_ageOf 10 = .ok (.sipush 400, 3) := by decide +kernel
theorem dX9_ageOf_13 : decode cX9_ageOf 13 = .ok (.iload_n 1, 1) := by decide +kernel
theorem dX9_ageOf_14 : decode cX9_ageOf 14 = .ok (.imul, 1) := by decide +kernel
theorem dX9_ageOf_15 : decode cX9_ageOf 15 = .ok (.iload_n 3, 1) := by decide +kernel
theorem dX9_ageOf_16 : decode cX9_ageOf 16 = .ok (.iadd, 1) := by decide +kernel
theorem dX9_ageOf_17 : decode cX9_ageOf 17 = .ok (.baload, 1) := by decide +kernel
theorem dX9_ageOf_18 : decode cX9_ageOf 18 = .ok (.ifCond .ne 9, 3) := by decide +kernel
theorem dX9_ageOf_21 : decode cX9_ageOf 21 = .ok (.iinc 3 (-1), 3) := by decide +kernel
theorem dX9_ageOf_24 : decode cX9_ageOf 24 = .ok (.goto (-22), 3) := by decide +kernel
theorem dX9_ageOf_27 : decode cX9_ageOf 27 = .ok (.iload_n 3, 1) := by decide +kernel
theorem dX9_ageOf_28 : decode cX9_ageOf 28 = .ok (.ifCond .ge 7, 3) := by decide +kernel
theorem dX9_ageOf_31 : decode cX9_ageOf 31 = .ok (.iload_n 2, 1) := by decide +kernel
theorem dX9_ageOf_32 : decode cX9_ageOf 32 = .ok (.goto 6, 3) := by decide +kernel
theorem dX9_ageOf_35 : decode cX9_ageOf 35 = .ok (.iload_n 2, 1) := by decide +kernel
theorem dX9_ageOf_36 : decode cX9_ageOf 36 = .ok (.iload_n 3, 1) := by decide +kernel
theorem dX9_ageOf_37 : decode cX9_ageOf 37 = .ok (.isub, 1) := by decide +kernel
theorem dX9_ageOf_38 : decode cX9_ageOf 38 = .ok (.ireturn, 1) := by decide +kernel
theorem dX9_areDays_0 : decode cX9_areDays 0 = .ok (.iload_n 0, 1) := by decide +kernel
theorem dX9_areDays_1 : decode cX9_areDays 1 = .ok (.ifCond .lt 27, 3) := by decide +kernel
theorem dX9_areDays_4 : decode cX9_areDays 4 = .ok (.iload_n 1, 1) := by decide +kernel
theorem dX9_areDays_5 : decode cX9_areDays 5 = .ok (.sipush 399, 3) := by decide +kernel
theorem dX9_areDays_8 : decode cX9_areDays 8 = .ok (.if_icmp .gt 20, 3) := by decide +kernel
theorem dX9_areDays_11 : decode cX9_areDays 11 = .ok (.iload_n 1, 1) := by decide +kernel
theorem dX9_areDays_12 : decode cX9_areDays 12 = .ok (.iload_n 0, 1) := by decide +kernel
theorem dX9_areDays_13 : decode cX9_areDays 13 = .ok (.if_icmp .le 15, 3) := by decide +kernel
theorem dX9_areDays_16 : decode cX9_areDays 16 = .ok (.iload_n 1, 1) := by decide +kernel
theorem dX9_areDays_17 : decode cX9_areDays 17 = .ok (.iload_n 0, 1) := by decide +kernel
theorem dX9_areDays_18 : decode cX9_areDays 18 = .ok (.isub, 1) := by decide +kernel
theorem dX9_areDays_19 : decode cX9_areDays 19 = .ok (.bipush 60, 2) := by decide +kernel
theorem dX9_areDays_21 : decode cX9_areDays 21 = .ok (.if_icmp .gt 7, 3) := by decide +kernel
theorem dX9_areDays_24 : decode cX9_areDays 24 = .ok (.iconst 1, 1) := by decide +kernel
theorem dX9_areDays_25 : decode cX9_areDays 25 = .ok (.goto 4, 3) := by decide +kernel
theorem dX9_areDays_28 : decode cX9_areDays 28 = .ok (.iconst 0, 1) := by decide +kernel
theorem dX9_areDays_29 : decode cX9_areDays 29 = .ok (.ireturn, 1) := by decide +kernel
theorem dX9_changed_0 : decode cX9_changed 0 = .ok (.iload_n 1, 1) := by decide +kernel
theorem dX9_changed_1 : decode cX9_changed 1 = .ok (.invokestatic 152, 3) := by decide +kernel
theorem dX9_changed_4 : decode cX9_changed 4 = .ok (.ifCond .eq 19, 3) := by decide +kernel
theorem dX9_changed_7 : decode cX9_changed 7 = .ok (.iload_n 2, 1) := by decide +kernel
theorem dX9_changed_8 : decode cX9_changed 8 = .ok (.iload_n 3, 1) := by decide +kernel
theorem dX9_changed_9 : decode cX9_changed 9 = .ok (.invokestatic 195, 3) := by decide +kernel
theorem dX9_changed_12 : decode cX9_changed 12 = .ok (.ifCond .eq 11, 3) := by decide +kernel
theorem dX9_changed_15 : decode cX9_changed 15 = .ok (.iload 4, 2) := by decide +kernel
theorem dX9_changed_17 : decode cX9_changed 17 = .ok (.invokestatic 185, 3) := by decide +kernel
theorem dX9_changed_20 : decode cX9_changed 20 = .ok (.ifCond .ne 5, 3) := by decide +kernel
theorem dX9_changed_23 : decode cX9_changed 23 = .ok (.iconst (-1), 1) := by decide +kernel
theorem dX9_changed_24 : decode cX9_changed 24 = .ok (.ireturn, 1) := by decide +kernel
theorem dX9_changed_25 : decode cX9_changed 25 = .ok (.aload_n 0, 1) := by decide +kernel
theorem dX9_changed_26 : decode cX9_changed 26 = .ok (.iload_n 1, 1) := by decide +kernel
theorem dX9_changed_27 : decode cX9_changed 27 = .ok (.invokevirtual 172, 3) := by decide +kernel
theorem dX9_changed_30 : decode cX9_changed 30 = .ok (.istore 5, 2) := by decide +kernel
theorem dX9_changed_32 : decode cX9_changed 32 = .ok (.iload 5, 2) := by decide +kernel
theorem dX9_changed_34 : decode cX9_changed 34 = .ok (.ifCond .ge 6, 3) := by decide +kernel
theorem dX9_changed_37 : decode cX9_changed 37 = .ok (.iload 5, 2) := by decide +kernel
theorem dX9_changed_39 : decode cX9_changed 39 = .ok (.ireturn, 1) := by decide +kernel
theorem dX9_changed_40 : decode cX9_changed 40 = .ok (.iconst 0, 1) := by decide +kernel
theorem dX9_changed_41 : decode cX9_changed 41 = .ok (.istore 6, 2) := by decide +kernel
theorem dX9_changed_43 : decode cX9_changed 43 = .ok (.iload_n 2, 1) := by decide +kernel
theorem dX9_changed_44 : decode cX9_changed 44 = .ok (.istore 7, 2) := by decide +kernel
theorem dX9_changed_46 : decode cX9_changed 46 = .ok (.iload 7, 2) := by decide +kernel
theorem dX9_changed_48 : decode cX9_changed 48 = .ok (.iload_n 3, 1) := by decide +kernel
theorem dX9_changed_49 : decode cX9_changed 49 = .ok (.if_icmp .ge 39, 3) := by decide +kernel
theorem dX9_changed_52 : decode cX9_changed 52 = .ok (.iload 6, 2) := by decide +kernel
theorem dX9_changed_54 : decode cX9_changed 54 = .ok (.aload_n 0, 1) := by decide +kernel
theorem dX9_changed_55 : decode cX9_changed 55 = .ok (.iload_n 1, 1) := by decide +kernel
theorem dX9_changed_56 : decode cX9_changed 56 = .ok (.iload 7, 2) := by decide +kernel
theorem dX9_changed_58 : decode cX9_changed 58 = .ok (.iload 4, 2) := by decide +kernel
theorem dX9_changed_60 : decode cX9_changed 60 = .ok (.invokevirtual 188, 3) := by decide +kernel
theorem dX9_changed_63 : decode cX9_changed 63 = .ok (.aload_n 0, 1) := by decide +kernel
theorem dX9_changed_64 : decode cX9_changed 64 = .ok (.iload_n 1, 1) := by decide +kernel
theorem dX9_changed_65 : decode cX9_changed 65 = .ok (.iload 7, 2) := by decide +kernel
theorem dX9_changed_67 : decode cX9_changed 67 = .ok (.iconst (-1), 1) := by decide +kernel
theorem dX9_changed_68 : decode cX9_changed 68 = .ok (.invokevirtual 188, 3) := by decide +kernel
theorem dX9_changed_71 : decode cX9_changed 71 = .ok (.if_icmp .ne 7, 3) := by decide +kernel
theorem dX9_changed_74 : decode cX9_changed 74 = .ok (.iconst 0, 1) := by decide +kernel
theorem dX9_changed_75 : decode cX9_changed 75 = .ok (.goto 4, 3) := by decide +kernel
theorem dX9_changed_78 : decode cX9_changed 78 = .ok (.iconst 1, 1) := by decide +kernel
theorem dX9_changed_79 : decode cX9_changed 79 = .ok (.iadd, 1) := by decide +kernel
theorem dX9_changed_80 : decode cX9_changed 80 = .ok (.istore 6, 2) := by decide +kernel
theorem dX9_changed_82 : decode cX9_changed 82 = .ok (.iinc 7 1, 3) := by decide +kernel
theorem dX9_changed_85 : decode cX9_changed 85 = .ok (.goto (-39), 3) := by decide +kernel
theorem dX9_changed_88 : decode cX9_changed 88 = .ok (.iload 6, 2) := by decide +kernel
theorem dX9_changed_90 : decode cX9_changed 90 = .ok (.ireturn, 1) := by decide +kernel
theorem dX9_compare_0 : decode cX9_compare 0 = .ok (.iload_n 1, 1) := by decide +kernel
theorem dX9_compare_1 : decode cX9_compare 1 = .ok (.invokestatic 152, 3) := by decide +kernel
theorem dX9_compare_4 : decode cX9_compare 4 = .ok (.ifCond .eq 36, 3) := by decide +kernel
theorem dX9_compare_7 : decode cX9_compare 7 = .ok (.iload_n 2, 1) := by decide +kernel
theorem dX9_compare_8 : decode cX9_compare 8 = .ok (.iconst 0, 1) := by decide +kernel
theorem dX9_compare_9 : decode cX9_compare 9 = .ok (.aload_n 0, 1) := by decide +kernel
theorem dX9_compare_10 : decode cX9_compare 10 = .ok (.getfield 156, 3) := by decide +kernel
theorem dX9_compare_13 : decode cX9_compare 13 = .ok (.invokestatic 148, 3) := by decide +kernel
theorem dX9_compare_16 : decode cX9_compare 16 = .ok (.ifCond .eq 24, 3) := by decide +kernel
theorem dX9_compare_19 : decode cX9_compare 19 = .ok (.iload_n 3, 1) := by decide +kernel
theorem dX9_compare_20 : decode cX9_compare 20 = .ok (.ldc 170, 2) := by decide +kernel
theorem dX9_compare_22 : decode cX9_compare 22 = .ok (.ldc 171, 2) := by decide +kernel
theorem dX9_compare_24 : decode cX9_compare 24 = .ok (.invokestatic 148, 3) := by decide +kernel
theorem dX9_compare_27 : decode cX9_compare 27 = .ok (.ifCond .eq 13, 3) := by decide +kernel
theorem dX9_compare_30 : decode cX9_compare 30 = .ok (.iload 4, 2) := by decide +kernel
theorem dX9_compare_32 : decode cX9_compare 32 = .ok (.iconst 0, 1) := by decide +kernel
theorem dX9_compare_33 : decode cX9_compare 33 = .ok (.iconst 5, 1) := by decide +kernel
theorem dX9_compare_34 : decode cX9_compare 34 = .ok (.invokestatic 148, 3) := by decide +kernel
theorem dX9_compare_37 : decode cX9_compare 37 = .ok (.ifCond .ne 5, 3) := by decide +kernel
theorem dX9_compare_40 : decode cX9_compare 40 = .ok (.iconst (-1), 1) := by decide +kernel
theorem dX9_compare_41 : decode cX9_compare 41 = .ok (.ireturn, 1) := by decide +kernel
theorem dX9_compare_42 : decode cX9_compare 42 = .ok (.aload_n 0, 1) := by decide +kernel
theorem dX9_compare_43 : decode cX9_compare 43 = .ok (.iload_n 1, 1) := by decide +kernel
theorem dX9_compare_44 : decode cX9_compare 44 = .ok (.invokevirtual 172, 3) := by decide +kernel
theorem dX9_compare_47 : decode cX9_compare 47 = .ok (.istore 5, 2) := by decide +kernel
theorem dX9_compare_49 : decode cX9_compare 49 = .ok (.iload 5, 2) := by decide +kernel
theorem dX9_compare_51 : decode cX9_compare 51 = .ok (.ifCond .ge 6, 3) := by decide +kernel
theorem dX9_compare_54 : decode cX9_compare 54 = .ok (.iload 5, 2) := by decide +kernel
theorem dX9_compare_56 : decode cX9_compare 56 = .ok (.ireturn, 1) := by decide +kernel
theorem dX9_compare_57 : decode cX9_compare 57 = .ok (.sipush 400, 3) := by decide +kernel
theorem dX9_compare_60 : decode cX9_compare 60 = .ok (.iload_n 1, 1) := by decide +kernel
theorem dX9_compare_61 : decode cX9_compare 61 = .ok (.imul, 1) := by decide +kernel
theorem dX9_compare_62 : decode cX9_compare 62 = .ok (.iload_n 2, 1) := by decide +kernel
theorem dX9_compare_63 : decode cX9_compare 63 = .ok (.iadd, 1) := by decide +kernel
theorem dX9_compare_64 : decode cX9_compare 64 = .ok (.istore 6, 2) := by decide +kernel
theorem dX9_compare_66 : decode cX9_compare 66 = .ok (.aload_n 0, 1) := by decide +kernel
theorem dX9_compare_67 : decode cX9_compare 67 = .ok (.getfield 23, 3) := by decide +kernel
theorem dX9_compare_70 : decode cX9_compare 70 = .ok (.iload 6, 2) := by decide +kernel
theorem dX9_compare_72 : decode cX9_compare 72 = .ok (.baload, 1) := by decide +kernel
theorem dX9_compare_73 : decode cX9_compare 73 = .ok (.ifCond .ne 14, 3) := by decide +kernel
theorem dX9_compare_76 : decode cX9_compare 76 = .ok (.aload_n 0, 1) := by decide +kernel
theorem dX9_compare_77 : decode cX9_compare 77 = .ok (.getfield 39, 3) := by decide +kernel
theorem dX9_compare_80 : decode cX9_compare 80 = .ok (.iload 6, 2) := by decide +kernel
theorem dX9_compare_82 : decode cX9_compare 82 = .ok (.iaload, 1) := by decide +kernel
theorem dX9_compare_83 : decode cX9_compare 83 = .ok (.iconst (-1), 1) := by decide +kernel
theorem dX9_compare_84 : decode cX9_compare 84 = .ok (.if_icmp .eq 6, 3) := by decide +kernel
theorem dX9_compare_87 : decode cX9_compare 87 = .ok (.bipush (-4), 2) := by decide +kernel
theorem dX9_compare_89 : decode cX9_compare 89 = .ok (.ireturn, 1) := by decide +kernel
theorem dX9_compare_90 : decode cX9_compare 90 = .ok (.aload_n 0, 1) := by decide +kernel
theorem dX9_compare_91 : decode cX9_compare 91 = .ok (.getfield 23, 3) := by decide +kernel
theorem dX9_compare_94 : decode cX9_compare 94 = .ok (.iload 6, 2) := by decide +kernel
theorem dX9_compare_96 : decode cX9_compare 96 = .ok (.iconst 1, 1) := by decide +kernel
theorem dX9_compare_97 : decode cX9_compare 97 = .ok (.bastore, 1) := by decide +kernel
theorem dX9_compare_98 : decode cX9_compare 98 = .ok (.aload_n 0, 1) := by decide +kernel
theorem dX9_compare_99 : decode cX9_compare 99 = .ok (.getfield 27, 3) := by decide +kernel
theorem dX9_compare_102 : decode cX9_compare 102 = .ok (.iload 6, 2) := by decide +kernel
theorem dX9_compare_104 : decode cX9_compare 104 = .ok (.iload_n 3, 1) := by decide +kernel
theorem dX9_compare_105 : decode cX9_compare 105 = .ok (.iastore, 1) := by decide +kernel
theorem dX9_compare_106 : decode cX9_compare 106 = .ok (.aload_n 0, 1) := by decide +kernel
theorem dX9_compare_107 : decode cX9_compare 107 = .ok (.getfield 30, 3) := by decide +kernel
theorem dX9_compare_110 : decode cX9_compare 110 = .ok (.iload 6, 2) := by decide +kernel
theorem dX9_compare_112 : decode cX9_compare 112 = .ok (.iload 4, 2) := by decide +kernel
theorem dX9_compare_114 : decode cX9_compare 114 = .ok (.iastore, 1) := by decide +kernel
theorem dX9_compare_115 : decode cX9_compare 115 = .ok (.iconst 1, 1) := by decide +kernel
theorem dX9_compare_116 : decode cX9_compare 116 = .ok (.ireturn, 1) := by decide +kernel
theorem dX9_days_0 : decode cX9_days 0 = .ok (.iload_n 1, 1) := by decide +kernel
theorem dX9_days_1 : decode cX9_days 1 = .ok (.iconst 1, 1) := by decide +kernel
theorem dX9_days_2 : decode cX9_days 2 = .ok (.bipush 100, 2) := by decide +kernel
theorem dX9_days_4 : decode cX9_days 4 = .ok (.invokestatic 148, 3) := by decide +kernel
theorem dX9_days_7 : decode cX9_days 7 = .ok (.ifCond .eq 15, 3) := by decide +kernel
theorem dX9_days_10 : decode cX9_days 10 = .ok (.aload_n 0, 1) := by decide +kernel
theorem dX9_days_11 : decode cX9_days 11 = .ok (.getfield 156, 3) := by decide +kernel
theorem dX9_days_14 : decode cX9_days 14 = .ok (.iload_n 1, 1) := by decide +kernel
theorem dX9_days_15 : decode cX9_days 15 = .ok (.iadd, 1) := by decide +kernel
theorem dX9_days_16 : decode cX9_days 16 = .ok (.sipush 399, 3) := by decide +kernel
theorem dX9_days_19 : decode cX9_days 19 = .ok (.if_icmp .le 5, 3) := by decide +kernel
theorem dX9_days_22 : decode cX9_days 22 = .ok (.iconst (-1), 1) := by decide +kernel
theorem dX9_days_23 : decode cX9_days 23 = .ok (.ireturn, 1) := by decide +kernel
theorem dX9_days_24 : decode cX9_days 24 = .ok (.iconst 0, 1) := by decide +kernel
theorem dX9_days_25 : decode cX9_days 25 = .ok (.istore_n 2, 1) := by decide +kernel
theorem dX9_days_26 : decode cX9_days 26 = .ok (.iload_n 2, 1) := by decide +kernel
theorem dX9_days_27 : decode cX9_days 27 = .ok (.iload_n 1, 1) := by decide +kernel
theorem dX9_days_28 : decode cX9_days 28 = .ok (.if_icmp .ge 65, 3) := by decide +kernel
theorem dX9_days_31 : decode cX9_days 31 = .ok (.iconst 0, 1) := by decide +kernel
theorem dX9_days_32 : decode cX9_days 32 = .ok (.istore_n 3, 1) := by decide +kernel
theorem dX9_days_33 : decode cX9_days 33 = .ok (.iload_n 3, 1) := by decide +kernel
theorem dX9_days_34 : decode cX9_days 34 = .ok (.bipush 16, 2) := by decide +kernel
theorem dX9_days_36 : decode cX9_days 36 = .ok (.if_icmp .ge 41, 3) := by decide +kernel
theorem dX9_days_39 : decode cX9_days 39 = .ok (.aload_n 0, 1) := by decide +kernel
theorem dX9_days_40 : decode cX9_days 40 = .ok (.getfield 39, 3) := by decide +kernel
theorem dX9_days_43 : decode cX9_days 43 = .ok (.sipush 400, 3) := by decide +kernel
theorem dX9_days_46 : decode cX9_days 46 = .ok (.iload_n 3, 1) := by decide +kernel
theorem dX9_days_47 : decode cX9_days 47 = .ok (.imul, 1) := by decide +kernel
theorem dX9_days_48 : decode cX9_days 48 = .ok (.aload_n 0, 1) := by decide +kernel
theorem dX9_days_49 : decode cX9_days 49 = .ok (.getfield 156, 3) := by decide +kernel
theorem dX9_days_52 : decode cX9_days 52 = .ok (.iadd, 1) := by decide +kernel
theorem dX9_days_53 : decode cX9_days 53 = .ok (.iconst 1, 1) := by decide +kernel
theorem dX9_days_54 : decode cX9_days 54 = .ok (.iadd, 1) := by decide +kernel
theorem dX9_days_55 : decode cX9_days 55 = .ok (.aload_n 0, 1) := by decide +kernel
theorem dX9_days_56 : decode cX9_days 56 = .ok (.getfield 39, 3) := by decide +kernel
theorem dX9_days_59 : decode cX9_days 59 = .ok (.sipush 400, 3) := by decide +kernel
theorem dX9_days_62 : decode cX9_days 62 = .ok (.iload_n 3, 1) := by decide +kernel
theorem dX9_days_63 : decode cX9_days 63 = .ok (.imul, 1) := by decide +kernel
theorem dX9_days_64 : decode cX9_days 64 = .ok (.aload_n 0, 1) := by decide +kernel
theorem dX9_days_65 : decode cX9_days 65 = .ok (.getfield 156, 3) := by decide +kernel
theorem dX9_days_68 : decode cX9_days 68 = .ok (.iadd, 1) := by decide +kernel
theorem dX9_days_69 : decode cX9_days 69 = .ok (.iaload, 1) := by decide +kernel
theorem dX9_days_70 : decode cX9_days 70 = .ok (.iastore, 1) := by decide +kernel
theorem dX9_days_71 : decode cX9_days 71 = .ok (.iinc 3 1, 3) := by decide +kernel
theorem dX9_days_74 : decode cX9_days 74 = .ok (.goto (-41), 3) := by decide +kernel
theorem dX9_days_77 : decode cX9_days 77 = .ok (.aload_n 0, 1) := by decide +kernel
theorem dX9_days_78 : decode cX9_days 78 = .ok (.dup, 1) := by decide +kernel
theorem dX9_days_79 : decode cX9_days 79 = .ok (.getfield 156, 3) := by decide +kernel
theorem dX9_days_82 : decode cX9_days 82 = .ok (.iconst 1, 1) := by decide +kernel
theorem dX9_days_83 : decode cX9_days 83 = .ok (.iadd, 1) := by decide +kernel
theorem dX9_days_84 : decode cX9_days 84 = .ok (.putfield 156, 3) := by decide +kernel
theorem dX9_days_87 : decode cX9_days 87 = .ok (.iinc 2 1, 3) := by decide +kernel
theorem dX9_days_90 : decode cX9_days 90 = .ok (.goto (-64), 3) := by decide +kernel
theorem dX9_days_93 : decode cX9_days 93 = .ok (.aload_n 0, 1) := by decide +kernel
theorem dX9_days_94 : decode cX9_days 94 = .ok (.getfield 156, 3) := by decide +kernel
theorem dX9_days_97 : decode cX9_days 97 = .ok (.ireturn, 1) := by decide +kernel
theorem dX9_error_0 : decode cX9_error 0 = .ok (.aload_n 0, 1) := by decide +kernel
theorem dX9_error_1 : decode cX9_error 1 = .ok (.iload_n 1, 1) := by decide +kernel
theorem dX9_error_2 : decode cX9_error 2 = .ok (.invokevirtual 172, 3) := by decide +kernel
theorem dX9_error_5 : decode cX9_error 5 = .ok (.ifCond .lt 17, 3) := by decide +kernel
theorem dX9_error_8 : decode cX9_error 8 = .ok (.iload_n 2, 1) := by decide +kernel
theorem dX9_error_9 : decode cX9_error 9 = .ok (.invokestatic 159, 3) := by decide +kernel
theorem dX9_error_12 : decode cX9_error 12 = .ok (.ifCond .eq 10, 3) := by decide +kernel
theorem dX9_error_15 : decode cX9_error 15 = .ok (.iload_n 3, 1) := by decide +kernel
theorem dX9_error_16 : decode cX9_error 16 = .ok (.invokestatic 185, 3) := by decide +kernel
theorem dX9_error_19 : decode cX9_error 19 = .ok (.ifCond .ne 8, 3) := by decide +kernel
theorem dX9_error_22 : decode cX9_error 22 = .ok (.ldc 169, 2) := by decide +kernel
theorem dX9_error_24 : decode cX9_error 24 = .ok (.goto 10, 3) := by decide +kernel
theorem dX9_error_27 : decode cX9_error 27 = .ok (.aload_n 0, 1) := by decide +kernel
theorem dX9_error_28 : decode cX9_error 28 = .ok (.iload_n 1, 1) := by decide +kernel
theorem dX9_error_29 : decode cX9_error 29 = .ok (.iload_n 2, 1) := by decide +kernel
theorem dX9_error_30 : decode cX9_error 30 = .ok (.iload_n 3, 1) := by decide +kernel
theorem dX9_error_31 : decode cX9_error 31 = .ok (.invokevirtual 178, 3) := by decide +kernel
theorem dX9_error_34 : decode cX9_error 34 = .ok (.ireturn, 1) := by decide +kernel
theorem dX9_errorOf_0 : decode cX9_errorOf 0 = .ok (.sipush 400, 3) := by decide +kernel
theorem dX9_errorOf_3 : decode cX9_errorOf 3 = .ok (.iload_n 1, 1) := by decide +kernel
theorem dX9_errorOf_4 : decode cX9_errorOf 4 = .ok (.imul, 1) := by decide +kernel
theorem dX9_errorOf_5 : decode cX9_errorOf 5 = .ok (.iload_n 2, 1) := by decide +kernel
theorem dX9_errorOf_6 : decode cX9_errorOf 6 = .ok (.iadd, 1) := by decide +kernel
theorem dX9_errorOf_7 : decode cX9_errorOf 7 = .ok (.istore 4, 2) := by decide +kernel
theorem dX9_errorOf_9 : decode cX9_errorOf 9 = .ok (.aload_n 0, 1) := by decide +kernel
theorem dX9_errorOf_10 : decode cX9_errorOf 10 = .ok (.getfield 23, 3) := by decide +kernel
theorem dX9_errorOf_13 : decode cX9_errorOf 13 = .ok (.iload 4, 2) := by decide +kernel
theorem dX9_errorOf_15 : decode cX9_errorOf 15 = .ok (.baload, 1) := by decide +kernel
theorem dX9_errorOf_16 : decode cX9_errorOf 16 = .ok (.ifCond .ne 6, 3) := by decide +kernel
theorem dX9_errorOf_19 : decode cX9_errorOf 19 = .ok (.ldc 169, 2) := by decide +kernel
theorem dX9_errorOf_21 : decode cX9_errorOf 21 = .ok (.ireturn, 1) := by decide +kernel
theorem dX9_errorOf_22 : decode cX9_errorOf 22 = .ok (.aload_n 0, 1) := by decide +kernel
theorem dX9_errorOf_23 : decode cX9_errorOf 23 = .ok (.getfield 27, 3) := by decide +kernel
theorem dX9_errorOf_26 : decode cX9_errorOf 26 = .ok (.iload 4, 2) := by decide +kernel
theorem dX9_errorOf_28 : decode cX9_errorOf 28 = .ok (.iaload, 1) := by decide +kernel
theorem dX9_errorOf_29 : decode cX9_errorOf 29 = .ok (.istore 5, 2) := by decide +kernel
theorem dX9_errorOf_31 : decode cX9_errorOf 31 = .ok (.iconst 0, 1) := by decide +kernel
theorem dX9_errorOf_32 : decode cX9_errorOf 32 = .ok (.istore 6, 2) := by decide +kernel
theorem dX9_errorOf_34 : decode cX9_errorOf 34 = .ok (.iload 6, 2) := by decide +kernel
theorem dX9_errorOf_36 : decode cX9_errorOf 36 = .ok (.aload_n 0, 1) := by decide +kernel
theorem dX9_errorOf_37 : decode cX9_errorOf 37 = .ok (.getfield 175, 3) := by decide +kernel
theorem dX9_errorOf_40 : decode cX9_errorOf 40 = .ok (.if_icmp .ge 74, 3) := by decide +kernel
theorem dX9_errorOf_43 : decode cX9_errorOf 43 = .ok (.aload_n 0, 1) := by decide +kernel
theorem dX9_errorOf_44 : decode cX9_errorOf 44 = .ok (.getfield 42, 3) := by decide +kernel
theorem dX9_errorOf_47 : decode cX9_errorOf 47 = .ok (.iload 6, 2) := by decide +kernel
theorem dX9_errorOf_49 : decode cX9_errorOf 49 = .ok (.iaload, 1) := by decide +kernel
theorem dX9_errorOf_50 : decode cX9_errorOf 50 = .ok (.aload_n 0, 1) := by decide +kernel
theorem dX9_errorOf_51 : decode cX9_errorOf 51 = .ok (.getfield 30, 3) := by decide +kernel
theorem dX9_errorOf_54 : decode cX9_errorOf 54 = .ok (.iload 4, 2) := by decide +kernel
theorem dX9_errorOf_56 : decode cX9_errorOf 56 = .ok (.iaload, 1) := by decide +kernel
theorem dX9_errorOf_57 : decode cX9_errorOf 57 = .ok (.if_icmp .ne 51, 3) := by decide +kernel
theorem dX9_errorOf_60 : decode cX9_errorOf 60 = .ok (.iload_n 2, 1) := by decide +kernel
theorem dX9_errorOf_61 : decode cX9_errorOf 61 = .ok (.aload_n 0, 1) := by decide +kernel
theorem dX9_errorOf_62 : decode cX9_errorOf 62 = .ok (.getfield 45, 3) := by decide +kernel
theorem dX9_errorOf_65 : decode cX9_errorOf 65 = .ok (.iload 6, 2) := by decide +kernel
theorem dX9_errorOf_67 : decode cX9_errorOf 67 = .ok (.iaload, 1) := by decide +kernel
theorem dX9_errorOf_68 : decode cX9_errorOf 68 = .ok (.aload_n 0, 1) := by decide +kernel
theorem dX9_errorOf_69 : decode cX9_errorOf 69 = .ok (.getfield 48, 3) := by decide +kernel
theorem dX9_errorOf_72 : decode cX9_errorOf 72 = .ok (.iload 6, 2) := by decide +kernel
theorem dX9_errorOf_74 : decode cX9_errorOf 74 = .ok (.iaload, 1) := by decide +kernel
theorem dX9_errorOf_75 : decode cX9_errorOf 75 = .ok (.invokestatic 148, 3) := by decide +kernel
theorem dX9_errorOf_78 : decode cX9_errorOf 78 = .ok (.ifCond .eq 30, 3) := by decide +kernel
theorem dX9_errorOf_81 : decode cX9_errorOf 81 = .ok (.iload_n 3, 1) := by decide +kernel
theorem dX9_errorOf_82 : decode cX9_errorOf 82 = .ok (.ifCond .lt 14, 3) := by decide +kernel
theorem dX9_errorOf_85 : decode cX9_errorOf 85 = .ok (.aload_n 0, 1) := by decide +kernel
theorem dX9_errorOf_86 : decode cX9_errorOf 86 = .ok (.getfield 54, 3) := by decide +kernel
theorem dX9_errorOf_89 : decode cX9_errorOf 89 = .ok (.iload 6, 2) := by decide +kernel
theorem dX9_errorOf_91 : decode cX9_errorOf 91 = .ok (.iaload, 1) := by decide +kernel
theorem dX9_errorOf_92 : decode cX9_errorOf 92 = .ok (.iload_n 3, 1) := by decide +kernel
theorem dX9_errorOf_93 : decode cX9_errorOf 93 = .ok (.if_icmp .gt 15, 3) := by decide +kernel
theorem dX9_errorOf_96 : decode cX9_errorOf 96 = .ok (.iload 5, 2) := by decide +kernel
theorem dX9_errorOf_98 : decode cX9_errorOf 98 = .ok (.aload_n 0, 1) := by decide +kernel
theorem dX9_errorOf_99 : decode cX9_errorOf 99 = .ok (.getfield 51, 3) := by decide +kernel
theorem dX9_errorOf_102 : decode cX9_errorOf 102 = .ok (.iload 6, 2) := by decide +kernel
theorem dX9_errorOf_104 : decode cX9_errorOf 104 = .ok (.iaload, 1) := by decide +kernel
theorem dX9_errorOf_105 : decode cX9_errorOf 105 = .ok (.isub, 1) := by decide +kernel
theorem dX9_errorOf_106 : decode cX9_errorOf 106 = .ok (.istore 5, 2) := by decide +kernel
theorem dX9_errorOf_108 : decode cX9_errorOf 108 = .ok (.iinc 6 1, 3) := by decide +kernel
theorem dX9_errorOf_111 : decode cX9_errorOf 111 = .ok (.goto (-77), 3) := by decide +kernel
theorem dX9_errorOf_114 : decode cX9_errorOf 114 = .ok (.iload 5, 2) := by decide +kernel
theorem dX9_errorOf_116 : decode cX9_errorOf 116 = .ok (.ireturn, 1) := by decide +kernel
theorem dX9_feed_0 : decode cX9_feed 0 = .ok (.iload_n 1, 1) := by decide +kernel
theorem dX9_feed_1 : decode cX9_feed 1 = .ok (.iconst 1, 1) := by decide +kernel
theorem dX9_feed_2 : decode cX9_feed 2 = .ok (.iconst 4, 1) := by decide +kernel
theorem dX9_feed_3 : decode cX9_feed 3 = .ok (.invokestatic 148, 3) := by decide +kernel
theorem dX9_feed_6 : decode cX9_feed 6 = .ok (.ifCond .ne 5, 3) := by decide +kernel
theorem dX9_feed_9 : decode cX9_feed 9 = .ok (.iconst (-1), 1) := by decide +kernel
theorem dX9_feed_10 : decode cX9_feed 10 = .ok (.ireturn, 1) := by decide +kernel
theorem dX9_feed_11 : decode cX9_feed 11 = .ok (.aload_n 0, 1) := by decide +kernel
theorem dX9_feed_12 : decode cX9_feed 12 = .ok (.getfield 284, 3) := by decide +kernel
theorem dX9_feed_15 : decode cX9_feed 15 = .ok (.iload_n 1, 1) := by decide +kernel
theorem dX9_feed_16 : decode cX9_feed 16 = .ok (.iadd, 1) := by decide +kernel
theorem dX9_feed_17 : decode cX9_feed 17 = .ok (.bipush 120, 2) := by decide +kernel
theorem dX9_feed_19 : decode cX9_feed 19 = .ok (.if_icmp .le 6, 3) := by decide +kernel
theorem dX9_feed_22 : decode cX9_feed 22 = .ok (.bipush (-5), 2) := by decide +kernel
theorem dX9_feed_24 : decode cX9_feed 24 = .ok (.ireturn, 1) := by decide +kernel
theorem dX9_feed_25 : decode cX9_feed 25 = .ok (.iconst 0, 1) := by decide +kernel
theorem dX9_feed_26 : decode cX9_feed 26 = .ok (.istore_n 3, 1) := by decide +kernel
theorem dX9_feed_27 : decode cX9_feed 27 = .ok (.iload_n 3, 1) := by decide +kernel
theorem dX9_feed_28 : decode cX9_feed 28 = .ok (.iload_n 1, 1) := by decide +kernel
theorem dX9_feed_29 : decode cX9_feed 29 = .ok (.if_icmp .ge 35, 3) := by decide +kernel
theorem dX9_feed_32 : decode cX9_feed 32 = .ok (.aload_n 0, 1) := by decide +kernel
theorem dX9_feed_33 : decode cX9_feed 33 = .ok (.getfield 66, 3) := by decide +kernel
theorem dX9_feed_36 : decode cX9_feed 36 = .ok (.aload_n 0, 1) := by decide +kernel
theorem dX9_feed_37 : decode cX9_feed 37 = .ok (.getfield 284, 3) := by decide +kernel
theorem dX9_feed_40 : decode cX9_feed 40 = .ok (.iload_n 2, 1) := by decide +kernel
theorem dX9_feed_41 : decode cX9_feed 41 = .ok (.bipush 8, 2) := by decide +kernel
theorem dX9_feed_43 : decode cX9_feed 43 = .ok (.iload_n 3, 1) := by decide +kernel
theorem dX9_feed_44 : decode cX9_feed 44 = .ok (.imul, 1) := by decide +kernel
theorem dX9_feed_45 : decode cX9_feed 45 = .ok (.ishr, 1) := by decide +kernel
theorem dX9_feed_46 : decode cX9_feed 46 = .ok (.i2b, 1) := by decide +kernel
theorem dX9_feed_47 : decode cX9_feed 47 = .ok (.bastore, 1) := by decide +kernel
theorem dX9_feed_48 : decode cX9_feed 48 = .ok (.aload_n 0, 1) := by decide +kernel
theorem dX9_feed_49 : decode cX9_feed 49 = .ok (.dup, 1) := by decide +kernel
theorem dX9_feed_50 : decode cX9_feed 50 = .ok (.getfield 284, 3) := by decide +kernel
theorem dX9_feed_53 : decode cX9_feed 53 = .ok (.iconst 1, 1) := by decide +kernel
theorem dX9_feed_54 : decode cX9_feed 54 = .ok (.iadd, 1) := by decide +kernel
theorem dX9_feed_55 : decode cX9_feed 55 = .ok (.putfield 284, 3) := by decide +kernel
theorem dX9_feed_58 : decode cX9_feed 58 = .ok (.iinc 3 1, 3) := by decide +kernel
theorem dX9_feed_61 : decode cX9_feed 61 = .ok (.goto (-34), 3) := by decide +kernel
theorem dX9_feed_64 : decode cX9_feed 64 = .ok (.aload_n 0, 1) := by decide +kernel
theorem dX9_feed_65 : decode cX9_feed 65 = .ok (.getfield 284, 3) := by decide +kernel
theorem dX9_feed_68 : decode cX9_feed 68 = .ok (.ireturn, 1) := by decide +kernel
theorem dX9_floor_0 : decode cX9_floor 0 = .ok (.lload_n 0, 1) := by decide +kernel
theorem dX9_floor_1 : decode cX9_floor 1 = .ok (.lload_n 2, 1) := by decide +kernel
theorem dX9_floor_2 : decode cX9_floor 2 = .ok (.ldiv, 1) := by decide +kernel
theorem dX9_floor_3 : decode cX9_floor 3 = .ok (.lload_n 0, 1) := by decide +kernel
theorem dX9_floor_4 : decode cX9_floor 4 = .ok (.lload_n 2, 1) := by decide +kernel
theorem dX9_floor_5 : decode cX9_floor 5 = .ok (.lrem, 1) := by decide +kernel
theorem dX9_floor_6 : decode cX9_floor 6 = .ok (.lconst 0, 1) := by decide +kernel
theorem dX9_floor_7 : decode cX9_floor 7 = .ok (.lcmp, 1) := by decide +kernel
theorem dX9_floor_8 : decode cX9_floor 8 = .ok (.ifCond .eq 32, 3) := by decide +kernel
theorem dX9_floor_11 : decode cX9_floor 11 = .ok (.lload_n 0, 1) := by decide +kernel
theorem dX9_floor_12 : decode cX9_floor 12 = .ok (.lconst 0, 1) := by decide +kernel
theorem dX9_floor_13 : decode cX9_floor 13 = .ok (.lcmp, 1) := by decide +kernel
theorem dX9_floor_14 : decode cX9_floor 14 = .ok (.ifCond .ge 7, 3) := by decide +kernel
theorem dX9_floor_17 : decode cX9_floor 17 = .ok (.iconst 1, 1) := by decide +kernel
theorem dX9_floor_18 : decode cX9_floor 18 = .ok (.goto 4, 3) := by decide +kernel
theorem dX9_floor_21 : decode cX9_floor 21 = .ok (.iconst 0, 1) := by decide +kernel
theorem dX9_floor_22 : decode cX9_floor 22 = .ok (.lload_n 2, 1) := by decide +kernel
theorem dX9_floor_23 : decode cX9_floor 23 = .ok (.lconst 0, 1) := by decide +kernel
theorem dX9_floor_24 : decode cX9_floor 24 = .ok (.lcmp, 1) := by decide +kernel
theorem dX9_floor_25 : decode cX9_floor 25 = .ok (.ifCond .ge 7, 3) := by decide +kernel
theorem dX9_floor_28 : decode cX9_floor 28 = .ok (.iconst 1, 1) := by decide +kernel
theorem dX9_floor_29 : decode cX9_floor 29 = .ok (.goto 4, 3) := by decide +kernel
theorem dX9_floor_32 : decode cX9_floor 32 = .ok (.iconst 0, 1) := by decide +kernel
theorem dX9_floor_33 : decode cX9_floor 33 = .ok (.if_icmp .eq 7, 3) := by decide +kernel
theorem dX9_floor_36 : decode cX9_floor 36 = .ok (.lconst 1, 1) := by decide +kernel
theorem dX9_floor_37 : decode cX9_floor 37 = .ok (.goto 4, 3) := by decide +kernel
theorem dX9_floor_40 : decode cX9_floor 40 = .ok (.lconst 0, 1) := by decide +kernel
theorem dX9_floor_41 : decode cX9_floor 41 = .ok (.lsub, 1) := by decide +kernel
theorem dX9_floor_42 : decode cX9_floor 42 = .ok (.lreturn, 1) := by decide +kernel
theorem dX9_goesTo_0 : decode cX9_goesTo 0 = .ok (.aload_n 0, 1) := by decide +kernel
theorem dX9_goesTo_1 : decode cX9_goesTo 1 = .ok (.getfield 39, 3) := by decide +kernel
theorem dX9_goesTo_4 : decode cX9_goesTo 4 = .ok (.sipush 400, 3) := by decide +kernel
theorem dX9_goesTo_7 : decode cX9_goesTo 7 = .ok (.iload_n 1, 1) := by decide +kernel
theorem dX9_goesTo_8 : decode cX9_goesTo 8 = .ok (.imul, 1) := by decide +kernel
theorem dX9_goesTo_9 : decode cX9_goesTo 9 = .ok (.aload_n 0, 1) := by decide +kernel
theorem dX9_goesTo_10 : decode cX9_goesTo 10 = .ok (.getfield 156, 3) := by decide +kernel
theorem dX9_goesTo_13 : decode cX9_goesTo 13 = .ok (.iadd, 1) := by decide +kernel
theorem dX9_goesTo_14 : decode cX9_goesTo 14 = .ok (.iload_n 2, 1) := by decide +kernel
theorem dX9_goesTo_15 : decode cX9_goesTo 15 = .ok (.iastore, 1) := by decide +kernel
theorem dX9_goesTo_16 : decode cX9_goesTo 16 = .ok (.return_, 1) := by decide +kernel
theorem dX9_holderNow_0 : decode cX9_holderNow 0 = .ok (.aload_n 0, 1) := by decide +kernel
theorem dX9_holderNow_1 : decode cX9_holderNow 1 = .ok (.getfield 39, 3) := by decide +kernel
theorem dX9_holderNow_4 : decode cX9_holderNow 4 = .ok (.sipush 400, 3) := by decide +kernel
theorem dX9_holderNow_7 : decode cX9_holderNow 7 = .ok (.iload_n 1, 1) := by decide +kernel
theorem dX9_holderNow_8 : decode cX9_holderNow 8 = .ok (.imul, 1) := by decide +kernel
theorem dX9_holderNow_9 : decode cX9_holderNow 9 = .ok (.aload_n 0, 1) := by decide +kernel
theorem dX9_holderNow_10 : decode cX9_holderNow 10 = .ok (.getfield 156, 3) := by decide +kernel
theorem dX9_holderNow_13 : decode cX9_holderNow 13 = .ok (.iadd, 1) := by decide +kernel
theorem dX9_holderNow_14 : decode cX9_holderNow 14 = .ok (.iaload, 1) := by decide +kernel
theorem dX9_holderNow_15 : decode cX9_holderNow 15 = .ok (.ireturn, 1) := by decide +kernel
theorem dX9_holds_0 : decode cX9_holds 0 = .ok (.iload_n 1, 1) := by decide +kernel
theorem dX9_holds_1 : decode cX9_holds 1 = .ok (.invokestatic 152, 3) := by decide +kernel
theorem dX9_holds_4 : decode cX9_holds 4 = .ok (.ifCond .eq 12, 3) := by decide +kernel
theorem dX9_holds_7 : decode cX9_holds 7 = .ok (.aload_n 0, 1) := by decide +kernel
theorem dX9_holds_8 : decode cX9_holds 8 = .ok (.getfield 17, 3) := by decide +kernel
theorem dX9_holds_11 : decode cX9_holds 11 = .ok (.iload_n 1, 1) := by decide +kernel
theorem dX9_holds_12 : decode cX9_holds 12 = .ok (.iaload, 1) := by decide +kernel
theorem dX9_holds_13 : decode cX9_holds 13 = .ok (.goto 4, 3) := by decide +kernel
theorem dX9_holds_16 : decode cX9_holds 16 = .ok (.iconst (-1), 1) := by decide +kernel
theorem dX9_holds_17 : decode cX9_holds 17 = .ok (.ireturn, 1) := by decide +kernel
theorem dX9_in_0 : decode cX9_in 0 = .ok (.iload_n 0, 1) := by decide +kernel
theorem dX9_in_1 : decode cX9_in 1 = .ok (.iload_n 1, 1) := by decide +kernel
theorem dX9_in_2 : decode cX9_in 2 = .ok (.if_icmp .lt 12, 3) := by decide +kernel
theorem dX9_in_5 : decode cX9_in 5 = .ok (.iload_n 0, 1) := by decide +kernel
theorem dX9_in_6 : decode cX9_in 6 = .ok (.iload_n 2, 1) := by decide +kernel
theorem dX9_in_7 : decode cX9_in 7 = .ok (.if_icmp .gt 7, 3) := by decide +kernel
theorem dX9_in_10 : decode cX9_in 10 = .ok (.iconst 1, 1) := by decide +kernel
theorem dX9_in_11 : decode cX9_in 11 = .ok (.goto 4, 3) := by decide +kernel
theorem dX9_in_14 : decode cX9_in 14 = .ok (.iconst 0, 1) := by decide +kernel
theorem dX9_in_15 : decode cX9_in 15 = .ok (.ireturn, 1) := by decide +kernel
theorem dX9_isDay_0 : decode cX9_isDay 0 = .ok (.iload_n 0, 1) := by decide +kernel
theorem dX9_isDay_1 : decode cX9_isDay 1 = .ok (.iconst 0, 1) := by decide +kernel
theorem dX9_isDay_2 : decode cX9_isDay 2 = .ok (.sipush 399, 3) := by decide +kernel
theorem dX9_isDay_5 : decode cX9_isDay 5 = .ok (.invokestatic 148, 3) := by decide +kernel
theorem dX9_isDay_8 : decode cX9_isDay 8 = .ok (.ireturn, 1) := by decide +kernel
theorem dX9_isDigit_0 : decode cX9_isDigit 0 = .ok (.iload_n 0, 1) := by decide +kernel
theorem dX9_isDigit_1 : decode cX9_isDigit 1 = .ok (.bipush 48, 2) := by decide +kernel
theorem dX9_isDigit_3 : decode cX9_isDigit 3 = .ok (.if_icmp .lt 13, 3) := by decide +kernel
theorem dX9_isDigit_6 : decode cX9_isDigit 6 = .ok (.iload_n 0, 1) := by decide +kernel
theorem dX9_isDigit_7 : decode cX9_isDigit 7 = .ok (.bipush 57, 2) := by decide +kernel
theorem dX9_isDigit_9 : decode cX9_isDigit 9 = .ok (.if_icmp .gt 7, 3) := by decide +kernel
theorem dX9_isDigit_12 : decode cX9_isDigit 12 = .ok (.iconst 1, 1) := by decide +kernel
theorem dX9_isDigit_13 : decode cX9_isDigit 13 = .ok (.goto 4, 3) := by decide +kernel
theorem dX9_isDigit_16 : decode cX9_isDigit 16 = .ok (.iconst 0, 1) := by decide +kernel
theorem dX9_isDigit_17 : decode cX9_isDigit 17 = .ok (.ireturn, 1) := by decide +kernel
theorem dX9_isKnown_0 : decode cX9_isKnown 0 = .ok (.iload_n 0, 1) := by decide +kernel
theorem dX9_isKnown_1 : decode cX9_isKnown 1 = .ok (.iconst (-1), 1) := by decide +kernel
theorem dX9_isKnown_2 : decode cX9_isKnown 2 = .ok (.sipush 399, 3) := by decide +kernel
theorem dX9_isKnown_5 : decode cX9_isKnown 5 = .ok (.invokestatic 148, 3) := by decide +kernel
theorem dX9_isKnown_8 : decode cX9_isKnown 8 = .ok (.ireturn, 1) := by decide +kernel
theorem dX9_isLetter_0 : decode cX9_isLetter 0 = .ok (.iload_n 0, 1) := by decide +kernel
theorem dX9_isLetter_1 : decode cX9_isLetter 1 = .ok (.bipush 97, 2) := by decide +kernel
theorem dX9_isLetter_3 : decode cX9_isLetter 3 = .ok (.if_icmp .lt 13, 3) := by decide +kernel
theorem dX9_isLetter_6 : decode cX9_isLetter 6 = .ok (.iload_n 0, 1) := by decide +kernel
theorem dX9_isLetter_7 : decode cX9_isLetter 7 = .ok (.bipush 122, 2) := by decide +kernel
theorem dX9_isLetter_9 : decode cX9_isLetter 9 = .ok (.if_icmp .gt 7, 3) := by decide +kernel
theorem dX9_isLetter_12 : decode cX9_isLetter 12 = .ok (.iconst 1, 1) := by decide +kernel
theorem dX9_isLetter_13 : decode cX9_isLetter 13 = .ok (.goto 4, 3) := by decide +kernel
theorem dX9_isLetter_16 : decode cX9_isLetter 16 = .ok (.iconst 0, 1) := by decide +kernel
theorem dX9_isLetter_17 : decode cX9_isLetter 17 = .ok (.ireturn, 1) := by decide +kernel
theorem dX9_isPlace_0 : decode cX9_isPlace 0 = .ok (.iload_n 0, 1) := by decide +kernel
theorem dX9_isPlace_1 : decode cX9_isPlace 1 = .ok (.iconst 0, 1) := by decide +kernel
theorem dX9_isPlace_2 : decode cX9_isPlace 2 = .ok (.bipush 15, 2) := by decide +kernel
theorem dX9_isPlace_4 : decode cX9_isPlace 4 = .ok (.invokestatic 148, 3) := by decide +kernel
theorem dX9_isPlace_7 : decode cX9_isPlace 7 = .ok (.ireturn, 1) := by decide +kernel
theorem dX9_isShip_0 : decode cX9_isShip 0 = .ok (.iload_n 0, 1) := by decide +kernel
theorem dX9_isShip_1 : decode cX9_isShip 1 = .ok (.iconst 0, 1) := by decide +kernel
theorem dX9_isShip_2 : decode cX9_isShip 2 = .ok (.iconst 4, 1) := by decide +kernel
theorem dX9_isShip_3 : decode cX9_isShip 3 = .ok (.invokestatic 148, 3) := by decide +kernel
theorem dX9_isShip_6 : decode cX9_isShip 6 = .ok (.ireturn, 1) := by decide +kernel
theorem dX9_isShown_0 : decode cX9_isShown 0 = .ok (.iload_n 0, 1) := by decide +kernel
theorem dX9_isShown_1 : decode cX9_isShown 1 = .ok (.ldc_w 395, 3) := by decide +kernel
theorem dX9_isShown_4 : decode cX9_isShown 4 = .ok (.ldc_w 396, 3) := by decide +kernel
theorem dX9_isShown_7 : decode cX9_isShown 7 = .ok (.invokestatic 148, 3) := by decide +kernel
theorem dX9_isShown_10 : decode cX9_isShown 10 = .ok (.ireturn, 1) := by decide +kernel
theorem dX9_isWatch_0 : decode cX9_isWatch 0 = .ok (.aload_n 0, 1) := by decide +kernel
theorem dX9_isWatch_1 : decode cX9_isWatch 1 = .ok (.getfield 17, 3) := by decide +kernel
theorem dX9_isWatch_4 : decode cX9_isWatch 4 = .ok (.iload_n 1, 1) := by decide +kernel
theorem dX9_isWatch_5 : decode cX9_isWatch 5 = .ok (.iaload, 1) := by decide +kernel
theorem dX9_isWatch_6 : decode cX9_isWatch 6 = .ok (.ifCond .eq 13, 3) := by decide +kernel
theorem dX9_isWatch_9 : decode cX9_isWatch 9 = .ok (.aload_n 0, 1) := by decide +kernel
theorem dX9_isWatch_10 : decode cX9_isWatch 10 = .ok (.getfield 17, 3) := by decide +kernel
theorem dX9_isWatch_13 : decode cX9_isWatch 13 = .ok (.iload_n 1, 1) := by decide +kernel
theorem dX9_isWatch_14 : decode cX9_isWatch 14 = .ok (.iaload, 1) := by decide +kernel
theorem dX9_isWatch_15 : decode cX9_isWatch 15 = .ok (.iconst 1, 1) := by decide +kernel
theorem dX9_isWatch_16 : decode cX9_isWatch 16 = .ok (.if_icmp .ne 7, 3) := by decide +kernel
theorem dX9_isWatch_19 : decode cX9_isWatch 19 = .ok (.iconst 1, 1) := by decide +kernel
theorem dX9_isWatch_20 : decode cX9_isWatch 20 = .ok (.goto 4, 3) := by decide +kernel
theorem dX9_isWatch_23 : decode cX9_isWatch 23 = .ok (.iconst 0, 1) := by decide +kernel
theorem dX9_isWatch_24 : decode cX9_isWatch 24 = .ok (.ireturn, 1) := by decide +kernel
theorem dX9_late_0 : decode cX9_late 0 = .ok (.iload_n 1, 1) := by decide +kernel
theorem dX9_late_1 : decode cX9_late 1 = .ok (.invokestatic 152, 3) := by decide +kernel
theorem dX9_late_4 : decode cX9_late 4 = .ok (.ifCond .eq 15, 3) := by decide +kernel
theorem dX9_late_7 : decode cX9_late 7 = .ok (.iload_n 2, 1) := by decide +kernel
theorem dX9_late_8 : decode cX9_late 8 = .ok (.iconst 0, 1) := by decide +kernel
theorem dX9_late_9 : decode cX9_late 9 = .ok (.aload_n 0, 1) := by decide +kernel
theorem dX9_late_10 : decode cX9_late 10 = .ok (.getfield 156, 3) := by decide +kernel
theorem dX9_late_13 : decode cX9_late 13 = .ok (.invokestatic 148, 3) := by decide +kernel
theorem dX9_late_16 : decode cX9_late 16 = .ok (.ifCond .ne 5, 3) := by decide +kernel
theorem dX9_late_19 : decode cX9_late 19 = .ok (.iconst (-1), 1) := by decide +kernel
theorem dX9_late_20 : decode cX9_late 20 = .ok (.ireturn, 1) := by decide +kernel
theorem dX9_late_21 : decode cX9_late 21 = .ok (.aload_n 0, 1) := by decide +kernel
theorem dX9_late_22 : decode cX9_late 22 = .ok (.iload_n 1, 1) := by decide +kernel
theorem dX9_late_23 : decode cX9_late 23 = .ok (.invokevirtual 172, 3) := by decide +kernel
theorem dX9_late_26 : decode cX9_late 26 = .ok (.istore_n 3, 1) := by decide +kernel
theorem dX9_late_27 : decode cX9_late 27 = .ok (.iload_n 3, 1) := by decide +kernel
theorem dX9_late_28 : decode cX9_late 28 = .ok (.ifCond .ge 5, 3) := by decide +kernel
theorem dX9_late_31 : decode cX9_late 31 = .ok (.iload_n 3, 1) := by decide +kernel
theorem dX9_late_32 : decode cX9_late 32 = .ok (.ireturn, 1) := by decide +kernel
theorem dX9_late_33 : decode cX9_late 33 = .ok (.aload_n 0, 1) := by decide +kernel
theorem dX9_late_34 : decode cX9_late 34 = .ok (.getfield 36, 3) := by decide +kernel
theorem dX9_late_37 : decode cX9_late 37 = .ok (.sipush 400, 3) := by decide +kernel
theorem dX9_late_40 : decode cX9_late 40 = .ok (.iload_n 1, 1) := by decide +kernel
theorem dX9_late_41 : decode cX9_late 41 = .ok (.imul, 1) := by decide +kernel
theorem dX9_late_42 : decode cX9_late 42 = .ok (.iload_n 2, 1) := by decide +kernel
theorem dX9_late_43 : decode cX9_late 43 = .ok (.iadd, 1) := by decide +kernel
theorem dX9_late_44 : decode cX9_late 44 = .ok (.baload, 1) := by decide +kernel
theorem dX9_late_45 : decode cX9_late 45 = .ok (.ifCond .eq 7, 3) := by decide +kernel
theorem dX9_late_48 : decode cX9_late 48 = .ok (.iconst 0, 1) := by decide +kernel
theorem dX9_late_49 : decode cX9_late 49 = .ok (.goto 4, 3) := by decide +kernel
theorem dX9_late_52 : decode cX9_late 52 = .ok (.iconst 1, 1) := by decide +kernel
theorem dX9_late_53 : decode cX9_late 53 = .ok (.istore 4, 2) := by decide +kernel
theorem dX9_late_55 : decode cX9_late 55 = .ok (.aload_n 0, 1) := by decide +kernel
theorem dX9_late_56 : decode cX9_late 56 = .ok (.getfield 36, 3) := by decide +kernel
theorem dX9_late_59 : decode cX9_late 59 = .ok (.sipush 400, 3) := by decide +kernel
theorem dX9_late_62 : decode cX9_late 62 = .ok (.iload_n 1, 1) := by decide +kernel
theorem dX9_late_63 : decode cX9_late 63 = .ok (.imul, 1) := by decide +kernel
theorem dX9_late_64 : decode cX9_late 64 = .ok (.iload_n 2, 1) := by decide +kernel
theorem dX9_late_65 : decode cX9_late 65 = .ok (.iadd, 1) := by decide +kernel
theorem dX9_late_66 : decode cX9_late 66 = .ok (.iconst 1, 1) := by decide +kernel
theorem dX9_late_67 : decode cX9_late 67 = .ok (.bastore, 1) := by decide +kernel
theorem dX9_late_68 : decode cX9_late 68 = .ok (.iload 4, 2) := by decide +kernel
theorem dX9_late_70 : decode cX9_late 70 = .ok (.ireturn, 1) := by decide +kernel
theorem dX9_off_0 : decode cX9_off 0 = .ok (.iload_n 1, 1) := by decide +kernel
theorem dX9_off_1 : decode cX9_off 1 = .ok (.iconst 1, 1) := by decide +kernel
theorem dX9_off_2 : decode cX9_off 2 = .ok (.iconst 5, 1) := by decide +kernel
theorem dX9_off_3 : decode cX9_off 3 = .ok (.invokestatic 148, 3) := by decide +kernel
theorem dX9_off_6 : decode cX9_off 6 = .ok (.ifCond .eq 36, 3) := by decide +kernel
theorem dX9_off_9 : decode cX9_off 9 = .ok (.iload_n 2, 1) := by decide +kernel
theorem dX9_off_10 : decode cX9_off 10 = .ok (.invokestatic 159, 3) := by decide +kernel
theorem dX9_off_13 : decode cX9_off 13 = .ok (.ifCond .eq 29, 3) := by decide +kernel
theorem dX9_off_16 : decode cX9_off 16 = .ok (.iload_n 3, 1) := by decide +kernel
theorem dX9_off_17 : decode cX9_off 17 = .ok (.invokestatic 159, 3) := by decide +kernel
theorem dX9_off_20 : decode cX9_off 20 = .ok (.ifCond .eq 22, 3) := by decide +kernel
theorem dX9_off_23 : decode cX9_off 23 = .ok (.iload_n 2, 1) := by decide +kernel
theorem dX9_off_24 : decode cX9_off 24 = .ok (.iload_n 3, 1) := by decide +kernel
theorem dX9_off_25 : decode cX9_off 25 = .ok (.if_icmp .gt 17, 3) := by decide +kernel
theorem dX9_off_28 : decode cX9_off 28 = .ok (.iload 4, 2) := by decide +kernel
theorem dX9_off_30 : decode cX9_off 30 = .ok (.sipush (-10000), 3) := by decide +kernel
theorem dX9_off_33 : decode cX9_off 33 = .ok (.sipush 10000, 3) := by decide +kernel
theorem dX9_off_36 : decode cX9_off 36 = .ok (.invokestatic 148, 3) := by decide +kernel
theorem dX9_off_39 : decode cX9_off 39 = .ok (.ifCond .ne 5, 3) := by decide +kernel
theorem dX9_off_42 : decode cX9_off 42 = .ok (.iconst (-1), 1) := by decide +kernel
theorem dX9_off_43 : decode cX9_off 43 = .ok (.ireturn, 1) := by decide +kernel
theorem dX9_off_44 : decode cX9_off 44 = .ok (.aload_n 0, 1) := by decide +kernel
theorem dX9_off_45 : decode cX9_off 45 = .ok (.getfield 175, 3) := by decide +kernel
theorem dX9_off_48 : decode cX9_off 48 = .ok (.bipush 60, 2) := by decide +kernel
theorem dX9_off_50 : decode cX9_off 50 = .ok (.if_icmp .ne 6, 3) := by decide +kernel
theorem dX9_off_53 : decode cX9_off 53 = .ok (.bipush (-5), 2) := by decide +kernel
theorem dX9_off_55 : decode cX9_off 55 = .ok (.ireturn, 1) := by decide +kernel
theorem dX9_off_56 : decode cX9_off 56 = .ok (.aload_n 0, 1) := by decide +kernel
theorem dX9_off_57 : decode cX9_off 57 = .ok (.getfield 42, 3) := by decide +kernel
theorem dX9_off_60 : decode cX9_off 60 = .ok (.aload_n 0, 1) := by decide +kernel
theorem dX9_off_61 : decode cX9_off 61 = .ok (.getfield 175, 3) := by decide +kernel
theorem dX9_off_64 : decode cX9_off 64 = .ok (.iload_n 1, 1) := by decide +kernel
theorem dX9_off_65 : decode cX9_off 65 = .ok (.iastore, 1) := by decide +kernel
theorem dX9_off_66 : decode cX9_off 66 = .ok (.aload_n 0, 1) := by decide +kernel
theorem dX9_off_67 : decode cX9_off 67 = .ok (.getfield 45, 3) := by decide +kernel
theorem dX9_off_70 : decode cX9_off 70 = .ok (.aload_n 0, 1) := by decide +kernel
theorem dX9_off_71 : decode cX9_off 71 = .ok (.getfield 175, 3) := by decide +kernel
theorem dX9_off_74 : decode cX9_off 74 = .ok (.iload_n 2, 1) := by decide +kernel
theorem dX9_off_75 : decode cX9_off 75 = .ok (.iastore, 1) := by decide +kernel
theorem dX9_off_76 : decode cX9_off 76 = .ok (.aload_n 0, 1) := by decide +kernel
theorem dX9_off_77 : decode cX9_off 77 = .ok (.getfield 48, 3) := by decide +kernel
theorem dX9_off_80 : decode cX9_off 80 = .ok (.aload_n 0, 1) := by decide +kernel
theorem dX9_off_81 : decode cX9_off 81 = .ok (.getfield 175, 3) := by decide +kernel
theorem dX9_off_84 : decode cX9_off 84 = .ok (.iload_n 3, 1) := by decide +kernel
theorem dX9_off_85 : decode cX9_off 85 = .ok (.iastore, 1) := by decide +kernel
theorem dX9_off_86 : decode cX9_off 86 = .ok (.aload_n 0, 1) := by decide +kernel
theorem dX9_off_87 : decode cX9_off 87 = .ok (.getfield 51, 3) := by decide +kernel
theorem dX9_off_90 : decode cX9_off 90 = .ok (.aload_n 0, 1) := by decide +kernel
theorem dX9_off_91 : decode cX9_off 91 = .ok (.getfield 175, 3) := by decide +kernel
theorem dX9_off_94 : decode cX9_off 94 = .ok (.iload 4, 2) := by decide +kernel
theorem dX9_off_96 : decode cX9_off 96 = .ok (.iastore, 1) := by decide +kernel
theorem dX9_off_97 : decode cX9_off 97 = .ok (.aload_n 0, 1) := by decide +kernel
theorem dX9_off_98 : decode cX9_off 98 = .ok (.getfield 54, 3) := by decide +kernel
theorem dX9_off_101 : decode cX9_off 101 = .ok (.aload_n 0, 1) := by decide +kernel
theorem dX9_off_102 : decode cX9_off 102 = .ok (.getfield 175, 3) := by decide +kernel
theorem dX9_off_105 : decode cX9_off 105 = .ok (.aload_n 0, 1) := by decide +kernel
theorem dX9_off_106 : decode cX9_off 106 = .ok (.getfield 156, 3) := by decide +kernel
theorem dX9_off_109 : decode cX9_off 109 = .ok (.iastore, 1) := by decide +kernel
theorem dX9_off_110 : decode cX9_off 110 = .ok (.aload_n 0, 1) := by decide +kernel
theorem dX9_off_111 : decode cX9_off 111 = .ok (.dup, 1) := by decide +kernel
theorem dX9_off_112 : decode cX9_off 112 = .ok (.getfield 175, 3) := by decide +kernel
theorem dX9_off_115 : decode cX9_off 115 = .ok (.iconst 1, 1) := by decide +kernel
theorem dX9_off_116 : decode cX9_off 116 = .ok (.iadd, 1) := by decide +kernel
theorem dX9_off_117 : decode cX9_off 117 = .ok (.putfield 175, 3) := by decide +kernel
theorem dX9_off_120 : decode cX9_off 120 = .ok (.aload_n 0, 1) := by decide +kernel
theorem dX9_off_121 : decode cX9_off 121 = .ok (.getfield 175, 3) := by decide +kernel
theorem dX9_off_124 : decode cX9_off 124 = .ok (.ireturn, 1) := by decide +kernel
theorem dX9_put_0 : decode cX9_put 0 = .ok (.iload_n 1, 1) := by decide +kernel
theorem dX9_put_1 : decode cX9_put 1 = .ok (.invokestatic 152, 3) := by decide +kernel
theorem dX9_put_4 : decode cX9_put 4 = .ok (.ifCond .eq 36, 3) := by decide +kernel
theorem dX9_put_7 : decode cX9_put 7 = .ok (.iload_n 2, 1) := by decide +kernel
theorem dX9_put_8 : decode cX9_put 8 = .ok (.iconst 0, 1) := by decide +kernel
theorem dX9_put_9 : decode cX9_put 9 = .ok (.iconst 2, 1) := by decide +kernel
theorem dX9_put_10 : decode cX9_put 10 = .ok (.invokestatic 148, 3) := by decide +kernel
theorem dX9_put_13 : decode cX9_put 13 = .ok (.ifCond .eq 27, 3) := by decide +kernel
theorem dX9_put_16 : decode cX9_put 16 = .ok (.iload_n 2, 1) := by decide +kernel
theorem dX9_put_17 : decode cX9_put 17 = .ok (.ifCond .ne 7, 3) := by decide +kernel
theorem dX9_put_20 : decode cX9_put 20 = .ok (.iload_n 3, 1) := by decide +kernel
theorem dX9_put_21 : decode cX9_put 21 = .ok (.ifCond .ne 19, 3) := by decide +kernel
theorem dX9_put_24 : decode cX9_put 24 = .ok (.iload_n 2, 1) := by decide +kernel
theorem dX9_put_25 : decode cX9_put 25 = .ok (.iconst 1, 1) := by decide +kernel
theorem dX9_put_26 : decode cX9_put 26 = .ok (.if_icmp .ne 16, 3) := by decide +kernel
theorem dX9_put_29 : decode cX9_put 29 = .ok (.iload_n 3, 1) := by decide +kernel
theorem dX9_put_30 : decode cX9_put 30 = .ok (.bipush (-50), 2) := by decide +kernel
theorem dX9_put_32 : decode cX9_put 32 = .ok (.bipush 50, 2) := by decide +kernel
theorem dX9_put_34 : decode cX9_put 34 = .ok (.invokestatic 148, 3) := by decide +kernel
theorem dX9_put_37 : decode cX9_put 37 = .ok (.ifCond .ne 5, 3) := by decide +kernel
theorem dX9_put_40 : decode cX9_put 40 = .ok (.iconst (-1), 1) := by decide +kernel
theorem dX9_put_41 : decode cX9_put 41 = .ok (.ireturn, 1) := by decide +kernel
theorem dX9_put_42 : decode cX9_put 42 = .ok (.aload_n 0, 1) := by decide +kernel
theorem dX9_put_43 : decode cX9_put 43 = .ok (.getfield 17, 3) := by decide +kernel
theorem dX9_put_46 : decode cX9_put 46 = .ok (.iload_n 1, 1) := by decide +kernel
theorem dX9_put_47 : decode cX9_put 47 = .ok (.iaload, 1) := by decide +kernel
theorem dX9_put_48 : decode cX9_put 48 = .ok (.bipush (-5), 2) := by decide +kernel
theorem dX9_put_50 : decode cX9_put 50 = .ok (.if_icmp .eq 6, 3) := by decide +kernel
theorem dX9_put_53 : decode cX9_put 53 = .ok (.bipush (-4), 2) := by decide +kernel
theorem dX9_put_55 : decode cX9_put 55 = .ok (.ireturn, 1) := by decide +kernel
theorem dX9_put_56 : decode cX9_put 56 = .ok (.aload_n 0, 1) := by decide +kernel
theorem dX9_put_57 : decode cX9_put 57 = .ok (.getfield 17, 3) := by decide +kernel
theorem dX9_put_60 : decode cX9_put 60 = .ok (.iload_n 1, 1) := by decide +kernel
theorem dX9_put_61 : decode cX9_put 61 = .ok (.iload_n 2, 1) := by decide +kernel
theorem dX9_put_62 : decode cX9_put 62 = .ok (.iastore, 1) := by decide +kernel
theorem dX9_put_63 : decode cX9_put 63 = .ok (.aload_n 0, 1) := by decide +kernel
theorem dX9_put_64 : decode cX9_put 64 = .ok (.getfield 20, 3) := by decide +kernel
theorem dX9_put_67 : decode cX9_put 67 = .ok (.iload_n 1, 1) := by decide +kernel
theorem dX9_put_68 : decode cX9_put 68 = .ok (.iload_n 3, 1) := by decide +kernel
theorem dX9_put_69 : decode cX9_put 69 = .ok (.iastore, 1) := by decide +kernel
theorem dX9_put_70 : decode cX9_put 70 = .ok (.iconst 0, 1) := by decide +kernel
theorem dX9_put_71 : decode cX9_put 71 = .ok (.istore 4, 2) := by decide +kernel
theorem dX9_put_73 : decode cX9_put 73 = .ok (.iload 4, 2) := by decide +kernel
theorem dX9_put_75 : decode cX9_put 75 = .ok (.sipush 400, 3) := by decide +kernel
theorem dX9_put_78 : decode cX9_put 78 = .ok (.if_icmp .ge 65, 3) := by decide +kernel
theorem dX9_put_81 : decode cX9_put 81 = .ok (.aload_n 0, 1) := by decide +kernel
theorem dX9_put_82 : decode cX9_put 82 = .ok (.getfield 23, 3) := by decide +kernel
theorem dX9_put_85 : decode cX9_put 85 = .ok (.sipush 400, 3) := by decide +kernel
theorem dX9_put_88 : decode cX9_put 88 = .ok (.iload_n 1, 1) := by decide +kernel
theorem dX9_put_89 : decode cX9_put 89 = .ok (.imul, 1) := by decide +kernel
theorem dX9_put_90 : decode cX9_put 90 = .ok (.iload 4, 2) := by decide +kernel
theorem dX9_put_92 : decode cX9_put 92 = .ok (.iadd, 1) := by decide +kernel
theorem dX9_put_93 : decode cX9_put 93 = .ok (.iconst 0, 1) := by decide +kernel
theorem dX9_put_94 : decode cX9_put 94 = .ok (.bastore, 1) := by decide +kernel
theorem dX9_put_95 : decode cX9_put 95 = .ok (.aload_n 0, 1) := by decide +kernel
theorem dX9_put_96 : decode cX9_put 96 = .ok (.getfield 33, 3) := by decide +kernel
theorem dX9_put_99 : decode cX9_put 99 = .ok (.sipush 400, 3) := by decide +kernel
theorem dX9_put_102 : decode cX9_put 102 = .ok (.iload_n 1, 1) := by decide +kernel
theorem dX9_put_103 : decode cX9_put 103 = .ok (.imul, 1) := by decide +kernel
theorem dX9_put_104 : decode cX9_put 104 = .ok (.iload 4, 2) := by decide +kernel
theorem dX9_put_106 : decode cX9_put 106 = .ok (.iadd, 1) := by decide +kernel
theorem dX9_put_107 : decode cX9_put 107 = .ok (.iconst 0, 1) := by decide +kernel
theorem dX9_put_108 : decode cX9_put 108 = .ok (.bastore, 1) := by decide +kernel
theorem dX9_put_109 : decode cX9_put 109 = .ok (.aload_n 0, 1) := by decide +kernel
theorem dX9_put_110 : decode cX9_put 110 = .ok (.getfield 36, 3) := by decide +kernel
theorem dX9_put_113 : decode cX9_put 113 = .ok (.sipush 400, 3) := by decide +kernel
theorem dX9_put_116 : decode cX9_put 116 = .ok (.iload_n 1, 1) := by decide +kernel
theorem dX9_put_117 : decode cX9_put 117 = .ok (.imul, 1) := by decide +kernel
theorem dX9_put_118 : decode cX9_put 118 = .ok (.iload 4, 2) := by decide +kernel
theorem dX9_put_120 : decode cX9_put 120 = .ok (.iadd, 1) := by decide +kernel
theorem dX9_put_121 : decode cX9_put 121 = .ok (.iconst 0, 1) := by decide +kernel
theorem dX9_put_122 : decode cX9_put 122 = .ok (.bastore, 1) := by decide +kernel
theorem dX9_put_123 : decode cX9_put 123 = .ok (.aload_n 0, 1) := by decide +kernel
theorem dX9_put_124 : decode cX9_put 124 = .ok (.getfield 39, 3) := by decide +kernel
theorem dX9_put_127 : decode cX9_put 127 = .ok (.sipush 400, 3) := by decide +kernel
theorem dX9_put_130 : decode cX9_put 130 = .ok (.iload_n 1, 1) := by decide +kernel
theorem dX9_put_131 : decode cX9_put 131 = .ok (.imul, 1) := by decide +kernel
theorem dX9_put_132 : decode cX9_put 132 = .ok (.iload 4, 2) := by decide +kernel
theorem dX9_put_134 : decode cX9_put 134 = .ok (.iadd, 1) := by decide +kernel
theorem dX9_put_135 : decode cX9_put 135 = .ok (.iconst (-1), 1) := by decide +kernel
theorem dX9_put_136 : decode cX9_put 136 = .ok (.iastore, 1) := by decide +kernel
theorem dX9_put_137 : decode cX9_put 137 = .ok (.iinc 4 1, 3) := by decide +kernel
theorem dX9_put_140 : decode cX9_put 140 = .ok (.goto (-67), 3) := by decide +kernel
theorem dX9_put_143 : decode cX9_put 143 = .ok (.iconst 1, 1) := by decide +kernel
theorem dX9_put_144 : decode cX9_put 144 = .ok (.ireturn, 1) := by decide +kernel
theorem dX9_rate_0 : decode cX9_rate 0 = .ok (.aload_n 0, 1) := by decide +kernel
theorem dX9_rate_1 : decode cX9_rate 1 = .ok (.iload_n 1, 1) := by decide +kernel
theorem dX9_rate_2 : decode cX9_rate 2 = .ok (.invokevirtual 172, 3) := by decide +kernel
theorem dX9_rate_5 : decode cX9_rate 5 = .ok (.ifCond .lt 21, 3) := by decide +kernel
theorem dX9_rate_8 : decode cX9_rate 8 = .ok (.iload_n 2, 1) := by decide +kernel
theorem dX9_rate_9 : decode cX9_rate 9 = .ok (.iconst 0, 1) := by decide +kernel
theorem dX9_rate_10 : decode cX9_rate 10 = .ok (.sipush 398, 3) := by decide +kernel
theorem dX9_rate_13 : decode cX9_rate 13 = .ok (.invokestatic 148, 3) := by decide +kernel
theorem dX9_rate_16 : decode cX9_rate 16 = .ok (.ifCond .eq 10, 3) := by decide +kernel
theorem dX9_rate_19 : decode cX9_rate 19 = .ok (.iload_n 3, 1) := by decide +kernel
theorem dX9_rate_20 : decode cX9_rate 20 = .ok (.invokestatic 185, 3) := by decide +kernel
theorem dX9_rate_23 : decode cX9_rate 23 = .ok (.ifCond .ne 8, 3) := by decide +kernel
theorem dX9_rate_26 : decode cX9_rate 26 = .ok (.ldc 169, 2) := by decide +kernel
theorem dX9_rate_28 : decode cX9_rate 28 = .ok (.goto 10, 3) := by decide +kernel
theorem dX9_rate_31 : decode cX9_rate 31 = .ok (.aload_n 0, 1) := by decide +kernel
theorem dX9_rate_32 : decode cX9_rate 32 = .ok (.iload_n 1, 1) := by decide +kernel
theorem dX9_rate_33 : decode cX9_rate 33 = .ok (.iload_n 2, 1) := by decide +kernel
theorem dX9_rate_34 : decode cX9_rate 34 = .ok (.iload_n 3, 1) := by decide +kernel
theorem dX9_rate_35 : decode cX9_rate 35 = .ok (.invokevirtual 188, 3) := by decide +kernel
theorem dX9_rate_38 : decode cX9_rate 38 = .ok (.ireturn, 1) := by decide +kernel
theorem dX9_rateOf_0 : decode cX9_rateOf 0 = .ok (.sipush 400, 3) := by decide +kernel
theorem dX9_rateOf_3 : decode cX9_rateOf 3 = .ok (.iload_n 1, 1) := by decide +kernel
theorem dX9_rateOf_4 : decode cX9_rateOf 4 = .ok (.imul, 1) := by decide +kernel
theorem dX9_rateOf_5 : decode cX9_rateOf 5 = .ok (.iload_n 2, 1) := by decide +kernel
theorem dX9_rateOf_6 : decode cX9_rateOf 6 = .ok (.iadd, 1) := by decide +kernel
theorem dX9_rateOf_7 : decode cX9_rateOf 7 = .ok (.istore 4, 2) := by decide +kernel
theorem dX9_rateOf_9 : decode cX9_rateOf 9 = .ok (.aload_n 0, 1) := by decide +kernel
theorem dX9_rateOf_10 : decode cX9_rateOf 10 = .ok (.getfield 33, 3) := by decide +kernel
theorem dX9_rateOf_13 : decode cX9_rateOf 13 = .ok (.iload 4, 2) := by decide +kernel
theorem dX9_rateOf_15 : decode cX9_rateOf 15 = .ok (.iconst 1, 1) := by decide +kernel
theorem dX9_rateOf_16 : decode cX9_rateOf 16 = .ok (.iadd, 1) := by decide +kernel
theorem dX9_rateOf_17 : decode cX9_rateOf 17 = .ok (.baload, 1) := by decide +kernel
theorem dX9_rateOf_18 : decode cX9_rateOf 18 = .ok (.ifCond .ne 25, 3) := by decide +kernel
theorem dX9_rateOf_21 : decode cX9_rateOf 21 = .ok (.aload_n 0, 1) := by decide +kernel
theorem dX9_rateOf_22 : decode cX9_rateOf 22 = .ok (.getfield 36, 3) := by decide +kernel
theorem dX9_rateOf_25 : decode cX9_rateOf 25 = .ok (.iload 4, 2) := by decide +kernel
theorem dX9_rateOf_27 : decode cX9_rateOf 27 = .ok (.baload, 1) := by decide +kernel
theorem dX9_rateOf_28 : decode cX9_rateOf 28 = .ok (.ifCond .ne 15, 3) := by decide +kernel
theorem dX9_rateOf_31 : decode cX9_rateOf 31 = .ok (.aload_n 0, 1) := by decide +kernel
theorem dX9_rateOf_32 : decode cX9_rateOf 32 = .ok (.getfield 36, 3) := by decide +kernel
theorem dX9_rateOf_35 : decode cX9_rateOf 35 = .ok (.iload 4, 2) := by decide +kernel
theorem dX9_rateOf_37 : decode cX9_rateOf 37 = .ok (.iconst 1, 1) := by decide +kernel
theorem dX9_rateOf_38 : decode cX9_rateOf 38 = .ok (.iadd, 1) := by decide +kernel
theorem dX9_rateOf_39 : decode cX9_rateOf 39 = .ok (.baload, 1) := by decide +kernel
theorem dX9_rateOf_40 : decode cX9_rateOf 40 = .ok (.ifCond .eq 6, 3) := by decide +kernel
theorem dX9_rateOf_43 : decode cX9_rateOf 43 = .ok (.ldc 169, 2) := by decide +kernel
theorem dX9_rateOf_45 : decode cX9_rateOf 45 = .ok (.ireturn, 1) := by decide +kernel
theorem dX9_rateOf_46 : decode cX9_rateOf 46 = .ok (.aload_n 0, 1) := by decide +kernel
theorem dX9_rateOf_47 : decode cX9_rateOf 47 = .ok (.iload_n 1, 1) := by decide +kernel
theorem dX9_rateOf_48 : decode cX9_rateOf 48 = .ok (.iload_n 2, 1) := by decide +kernel
theorem dX9_rateOf_49 : decode cX9_rateOf 49 = .ok (.iload_n 3, 1) := by decide +kernel
theorem dX9_rateOf_50 : decode cX9_rateOf 50 = .ok (.invokevirtual 178, 3) := by decide +kernel
theorem dX9_rateOf_53 : decode cX9_rateOf 53 = .ok (.istore 5, 2) := by decide +kernel
theorem dX9_rateOf_55 : decode cX9_rateOf 55 = .ok (.aload_n 0, 1) := by decide +kernel
theorem dX9_rateOf_56 : decode cX9_rateOf 56 = .ok (.iload_n 1, 1) := by decide +kernel
theorem dX9_rateOf_57 : decode cX9_rateOf 57 = .ok (.iload_n 2, 1) := by decide +kernel
theorem dX9_rateOf_58 : decode cX9_rateOf 58 = .ok (.iconst 1, 1) := by decide +kernel
theorem dX9_rateOf_59 : decode cX9_rateOf 59 = .ok (.iadd, 1) := by decide +kernel
theorem dX9_rateOf_60 : decode cX9_rateOf 60 = .ok (.iload_n 3, 1) := by decide +kernel
theorem dX9_rateOf_61 : decode cX9_rateOf 61 = .ok (.invokevirtual 178, 3) := by decide +kernel
theorem dX9_rateOf_64 : decode cX9_rateOf 64 = .ok (.istore 6, 2) := by decide +kernel
theorem dX9_rateOf_66 : decode cX9_rateOf 66 = .ok (.iload 5, 2) := by decide +kernel
theorem dX9_rateOf_68 : decode cX9_rateOf 68 = .ok (.ldc 169, 2) := by decide +kernel
theorem dX9_rateOf_70 : decode cX9_rateOf 70 = .ok (.if_icmp .eq 24, 3) := by decide +kernel
theorem dX9_rateOf_73 : decode cX9_rateOf 73 = .ok (.iload 6, 2) := by decide +kernel
theorem dX9_rateOf_75 : decode cX9_rateOf 75 = .ok (.ldc 169, 2) := by decide +kernel
theorem dX9_rateOf_77 : decode cX9_rateOf 77 = .ok (.if_icmp .eq 17, 3) := by decide +kernel
theorem dX9_rateOf_80 : decode cX9_rateOf 80 = .ok (.iload 6, 2) := by decide +kernel
theorem dX9_rateOf_82 : decode cX9_rateOf 82 = .ok (.iload 5, 2) := by decide +kernel
theorem dX9_rateOf_84 : decode cX9_rateOf 84 = .ok (.isub, 1) := by decide +kernel
theorem dX9_rateOf_85 : decode cX9_rateOf 85 = .ok (.invokestatic 182, 3) := by decide +kernel
theorem dX9_rateOf_88 : decode cX9_rateOf 88 = .ok (.sipush 999, 3) := by decide +kernel
theorem dX9_rateOf_91 : decode cX9_rateOf 91 = .ok (.if_icmp .le 8, 3) := by decide +kernel
theorem dX9_rateOf_94 : decode cX9_rateOf 94 = .ok (.ldc 169, 2) := by decide +kernel
theorem dX9_rateOf_96 : decode cX9_rateOf 96 = .ok (.goto 8, 3) := by decide +kernel
theorem dX9_rateOf_99 : decode cX9_rateOf 99 = .ok (.iload 6, 2) := by decide +kernel
theorem dX9_rateOf_101 : decode cX9_rateOf 101 = .ok (.iload 5, 2) := by decide +kernel
theorem dX9_rateOf_103 : decode cX9_rateOf 103 = .ok (.isub, 1) := by decide +kernel
theorem dX9_rateOf_104 : decode cX9_rateOf 104 = .ok (.ireturn, 1) := by decide +kernel
theorem dX9_read_0 : decode cX9_read 0 = .ok (.iload_n 1, 1) := by decide +kernel
theorem dX9_read_1 : decode cX9_read 1 = .ok (.invokestatic 152, 3) := by decide +kernel
theorem dX9_read_4 : decode cX9_read 4 = .ok (.ifCond .eq 23, 3) := by decide +kernel
theorem dX9_read_7 : decode cX9_read 7 = .ok (.aload_n 0, 1) := by decide +kernel
theorem dX9_read_8 : decode cX9_read 8 = .ok (.getfield 17, 3) := by decide +kernel
theorem dX9_read_11 : decode cX9_read 11 = .ok (.iload_n 1, 1) := by decide +kernel
theorem dX9_read_12 : decode cX9_read 12 = .ok (.iaload, 1) := by decide +kernel
theorem dX9_read_13 : decode cX9_read 13 = .ok (.iconst 1, 1) := by decide +kernel
theorem dX9_read_14 : decode cX9_read 14 = .ok (.if_icmp .eq 18, 3) := by decide +kernel
theorem dX9_read_17 : decode cX9_read 17 = .ok (.aload_n 0, 1) := by decide +kernel
theorem dX9_read_18 : decode cX9_read 18 = .ok (.getfield 17, 3) := by decide +kernel
theorem dX9_read_21 : decode cX9_read 21 = .ok (.iload_n 1, 1) := by decide +kernel
theorem dX9_read_22 : decode cX9_read 22 = .ok (.iaload, 1) := by decide +kernel
theorem dX9_read_23 : decode cX9_read 23 = .ok (.iconst 2, 1) := by decide +kernel
theorem dX9_read_24 : decode cX9_read 24 = .ok (.if_icmp .eq 8, 3) := by decide +kernel
theorem dX9_read_27 : decode cX9_read 27 = .ok (.ldc 169, 2) := by decide +kernel
theorem dX9_read_29 : decode cX9_read 29 = .ok (.goto 9, 3) := by decide +kernel
theorem dX9_read_32 : decode cX9_read 32 = .ok (.aload_n 0, 1) := by decide +kernel
theorem dX9_read_33 : decode cX9_read 33 = .ok (.getfield 20, 3) := by decide +kernel
theorem dX9_read_36 : decode cX9_read 36 = .ok (.iload_n 1, 1) := by decide +kernel
theorem dX9_read_37 : decode cX9_read 37 = .ok (.iaload, 1) := by decide +kernel
theorem dX9_read_38 : decode cX9_read 38 = .ok (.ireturn, 1) := by decide +kernel
theorem dX9_repair_0 : decode cX9_repair 0 = .ok (.iload_n 1, 1) := by decide +kernel
theorem dX9_repair_1 : decode cX9_repair 1 = .ok (.invokestatic 152, 3) := by decide +kernel
theorem dX9_repair_4 : decode cX9_repair 4 = .ok (.ifCond .eq 15, 3) := by decide +kernel
theorem dX9_repair_7 : decode cX9_repair 7 = .ok (.iload_n 2, 1) := by decide +kernel
theorem dX9_repair_8 : decode cX9_repair 8 = .ok (.iconst 0, 1) := by decide +kernel
theorem dX9_repair_9 : decode cX9_repair 9 = .ok (.aload_n 0, 1) := by decide +kernel
theorem dX9_repair_10 : decode cX9_repair 10 = .ok (.getfield 156, 3) := by decide +kernel
theorem dX9_repair_13 : decode cX9_repair 13 = .ok (.invokestatic 148, 3) := by decide +kernel
theorem dX9_repair_16 : decode cX9_repair 16 = .ok (.ifCond .ne 5, 3) := by decide +kernel
theorem dX9_repair_19 : decode cX9_repair 19 = .ok (.iconst (-1), 1) := by decide +kernel
theorem dX9_repair_20 : decode cX9_repair 20 = .ok (.ireturn, 1) := by decide +kernel
theorem dX9_repair_21 : decode cX9_repair 21 = .ok (.aload_n 0, 1) := by decide +kernel
theorem dX9_repair_22 : decode cX9_repair 22 = .ok (.iload_n 1, 1) := by decide +kernel
theorem dX9_repair_23 : decode cX9_repair 23 = .ok (.invokevirtual 172, 3) := by decide +kernel
theorem dX9_repair_26 : decode cX9_repair 26 = .ok (.istore_n 3, 1) := by decide +kernel
theorem dX9_repair_27 : decode cX9_repair 27 = .ok (.iload_n 3, 1) := by decide +kernel
theorem dX9_repair_28 : decode cX9_repair 28 = .ok (.ifCond .ge 5, 3) := by decide +kernel
theorem dX9_repair_31 : decode cX9_repair 31 = .ok (.iload_n 3, 1) := by decide +kernel
theorem dX9_repair_32 : decode cX9_repair 32 = .ok (.ireturn, 1) := by decide +kernel
theorem dX9_repair_33 : decode cX9_repair 33 = .ok (.aload_n 0, 1) := by decide +kernel
theorem dX9_repair_34 : decode cX9_repair 34 = .ok (.getfield 33, 3) := by decide +kernel
theorem dX9_repair_37 : decode cX9_repair 37 = .ok (.sipush 400, 3) := by decide +kernel
theorem dX9_repair_40 : decode cX9_repair 40 = .ok (.iload_n 1, 1) := by decide +kernel
theorem dX9_repair_41 : decode cX9_repair 41 = .ok (.imul, 1) := by decide +kernel
theorem dX9_repair_42 : decode cX9_repair 42 = .ok (.iload_n 2, 1) := by decide +kernel
theorem dX9_repair_43 : decode cX9_repair 43 = .ok (.iadd, 1) := by decide +kernel
theorem dX9_repair_44 : decode cX9_repair 44 = .ok (.baload, 1) := by decide +kernel
theorem dX9_repair_45 : decode cX9_repair 45 = .ok (.ifCond .eq 7, 3) := by decide +kernel
theorem dX9_repair_48 : decode cX9_repair 48 = .ok (.iconst 0, 1) := by decide +kernel
theorem dX9_repair_49 : decode cX9_repair 49 = .ok (.goto 4, 3) := by decide +kernel
theorem dX9_repair_52 : decode cX9_repair 52 = .ok (.iconst 1, 1) := by decide +kernel
theorem dX9_repair_53 : decode cX9_repair 53 = .ok (.istore 4, 2) := by decide +kernel
theorem dX9_repair_55 : decode cX9_repair 55 = .ok (.aload_n 0, 1) := by decide +kernel
theorem dX9_repair_56 : decode cX9_repair 56 = .ok (.getfield 33, 3) := by decide +kernel
theorem dX9_repair_59 : decode cX9_repair 59 = .ok (.sipush 400, 3) := by decide +kernel
theorem dX9_repair_62 : decode cX9_repair 62 = .ok (.iload_n 1, 1) := by decide +kernel
theorem dX9_repair_63 : decode cX9_repair 63 = .ok (.imul, 1) := by decide +kernel
theorem dX9_repair_64 : decode cX9_repair 64 = .ok (.iload_n 2, 1) := by decide +kernel
theorem dX9_repair_65 : decode cX9_repair 65 = .ok (.iadd, 1) := by decide +kernel
theorem dX9_repair_66 : decode cX9_repair 66 = .ok (.iconst 1, 1) := by decide +kernel
theorem dX9_repair_67 : decode cX9_repair 67 = .ok (.bastore, 1) := by decide +kernel
theorem dX9_repair_68 : decode cX9_repair 68 = .ok (.iload 4, 2) := by decide +kernel
theorem dX9_repair_70 : decode cX9_repair 70 = .ok (.ireturn, 1) := by decide +kernel
theorem dX9_size_0 : decode cX9_size 0 = .ok (.iload_n 0, 1) := by decide +kernel
theorem dX9_size_1 : decode cX9_size 1 = .ok (.ifCond .ge 8, 3) := by decide +kernel
theorem dX9_size_4 : decode cX9_size 4 = .ok (.iload_n 0, 1) := by decide +kernel
theorem dX9_size_5 : decode cX9_size 5 = .ok (.ineg, 1) := by decide +kernel
theorem dX9_size_6 : decode cX9_size 6 = .ok (.goto 4, 3) := by decide +kernel
theorem dX9_size_9 : decode cX9_size 9 = .ok (.iload_n 0, 1) := by decide +kernel
theorem dX9_size_10 : decode cX9_size 10 = .ok (.ireturn, 1) := by decide +kernel
theorem dX9_take_0 : decode cX9_take 0 = .ok (.iload_n 1, 1) := by decide +kernel
theorem dX9_take_1 : decode cX9_take 1 = .ok (.invokestatic 152, 3) := by decide +kernel
theorem dX9_take_4 : decode cX9_take 4 = .ok (.ifCond .ne 5, 3) := by decide +kernel
theorem dX9_take_7 : decode cX9_take 7 = .ok (.iconst (-1), 1) := by decide +kernel
theorem dX9_take_8 : decode cX9_take 8 = .ok (.ireturn, 1) := by decide +kernel
theorem dX9_take_9 : decode cX9_take 9 = .ok (.aload_n 0, 1) := by decide +kernel
theorem dX9_take_10 : decode cX9_take 10 = .ok (.getfield 17, 3) := by decide +kernel
theorem dX9_take_13 : decode cX9_take 13 = .ok (.iload_n 1, 1) := by decide +kernel
theorem dX9_take_14 : decode cX9_take 14 = .ok (.iaload, 1) := by decide +kernel
theorem dX9_take_15 : decode cX9_take 15 = .ok (.bipush (-5), 2) := by decide +kernel
theorem dX9_take_17 : decode cX9_take 17 = .ok (.if_icmp .ne 6, 3) := by decide +kernel
theorem dX9_take_20 : decode cX9_take 20 = .ok (.bipush (-2), 2) := by decide +kernel
theorem dX9_take_22 : decode cX9_take 22 = .ok (.ireturn, 1) := by decide +kernel
theorem dX9_take_23 : decode cX9_take 23 = .ok (.aload_n 0, 1) := by decide +kernel
theorem dX9_take_24 : decode cX9_take 24 = .ok (.iload_n 1, 1) := by decide +kernel
theorem dX9_take_25 : decode cX9_take 25 = .ok (.invokevirtual 162, 3) := by decide +kernel
theorem dX9_take_28 : decode cX9_take 28 = .ok (.ifCond .eq 15, 3) := by decide +kernel
theorem dX9_take_31 : decode cX9_take 31 = .ok (.aload_n 0, 1) := by decide +kernel
theorem dX9_take_32 : decode cX9_take 32 = .ok (.iload_n 1, 1) := by decide +kernel
theorem dX9_take_33 : decode cX9_take 33 = .ok (.invokevirtual 165, 3) := by decide +kernel
theorem dX9_take_36 : decode cX9_take 36 = .ok (.iconst (-1), 1) := by decide +kernel
theorem dX9_take_37 : decode cX9_take 37 = .ok (.if_icmp .eq 6, 3) := by decide +kernel
theorem dX9_take_40 : decode cX9_take 40 = .ok (.bipush (-4), 2) := by decide +kernel
theorem dX9_take_42 : decode cX9_take 42 = .ok (.ireturn, 1) := by decide +kernel
theorem dX9_take_43 : decode cX9_take 43 = .ok (.aload_n 0, 1) := by decide +kernel
theorem dX9_take_44 : decode cX9_take 44 = .ok (.getfield 17, 3) := by decide +kernel
theorem dX9_take_47 : decode cX9_take 47 = .ok (.iload_n 1, 1) := by decide +kernel
theorem dX9_take_48 : decode cX9_take 48 = .ok (.bipush (-5), 2) := by decide +kernel
theorem dX9_take_50 : decode cX9_take 50 = .ok (.iastore, 1) := by decide +kernel
theorem dX9_take_51 : decode cX9_take 51 = .ok (.iconst 1, 1) := by decide +kernel
theorem dX9_take_52 : decode cX9_take 52 = .ok (.ireturn, 1) := by decide +kernel
theorem dX9_warmth_0 : decode cX9_warmth 0 = .ok (.iload_n 1, 1) := by decide +kernel
theorem dX9_warmth_1 : decode cX9_warmth 1 = .ok (.invokestatic 159, 3) := by decide +kernel
theorem dX9_warmth_4 : decode cX9_warmth 4 = .ok (.ifCond .eq 20, 3) := by decide +kernel
theorem dX9_warmth_7 : decode cX9_warmth 7 = .ok (.iload_n 2, 1) := by decide +kernel
theorem dX9_warmth_8 : decode cX9_warmth 8 = .ok (.bipush (-100), 2) := by decide +kernel
theorem dX9_warmth_10 : decode cX9_warmth 10 = .ok (.if_icmp .eq 16, 3) := by decide +kernel
theorem dX9_warmth_13 : decode cX9_warmth 13 = .ok (.iload_n 2, 1) := by decide +kernel
theorem dX9_warmth_14 : decode cX9_warmth 14 = .ok (.bipush (-50), 2) := by decide +kernel
theorem dX9_warmth_16 : decode cX9_warmth 16 = .ok (.bipush 50, 2) := by decide +kernel
theorem dX9_warmth_18 : decode cX9_warmth 18 = .ok (.invokestatic 148, 3) := by decide +kernel
theorem dX9_warmth_21 : decode cX9_warmth 21 = .ok (.ifCond .ne 5, 3) := by decide +kernel
theorem dX9_warmth_24 : decode cX9_warmth 24 = .ok (.iconst (-1), 1) := by decide +kernel
theorem dX9_warmth_25 : decode cX9_warmth 25 = .ok (.ireturn, 1) := by decide +kernel
theorem dX9_warmth_26 : decode cX9_warmth 26 = .ok (.aload_n 0, 1) := by decide +kernel
theorem dX9_warmth_27 : decode cX9_warmth 27 = .ok (.getfield 13, 3) := by decide +kernel
theorem dX9_warmth_30 : decode cX9_warmth 30 = .ok (.iload_n 1, 1) := by decide +kernel
theorem dX9_warmth_31 : decode cX9_warmth 31 = .ok (.iload_n 2, 1) := by decide +kernel
theorem dX9_warmth_32 : decode cX9_warmth 32 = .ok (.bipush (-100), 2) := by decide +kernel
theorem dX9_warmth_34 : decode cX9_warmth 34 = .ok (.if_icmp .ne 9, 3) := by decide +kernel
theorem dX9_warmth_37 : decode cX9_warmth 37 = .ok (.sipush (-1000), 3) := by decide +kernel
theorem dX9_warmth_40 : decode cX9_warmth 40 = .ok (.goto 4, 3) := by decide +kernel
theorem dX9_warmth_43 : decode cX9_warmth 43 = .ok (.iload_n 2, 1) := by decide +kernel
theorem dX9_warmth_44 : decode cX9_warmth 44 = .ok (.iastore, 1) := by decide +kernel
theorem dX9_warmth_45 : decode cX9_warmth 45 = .ok (.iconst 1, 1) := by decide +kernel
theorem dX9_warmth_46 : decode cX9_warmth 46 = .ok (.ireturn, 1) := by decide +kernel
theorem dX9_warmthOf_0 : decode cX9_warmthOf 0 = .ok (.aload_n 0, 1) := by decide +kernel
theorem dX9_warmthOf_1 : decode cX9_warmthOf 1 = .ok (.getfield 17, 3) := by decide +kernel
theorem dX9_warmthOf_4 : decode cX9_warmthOf 4 = .ok (.iload_n 1, 1) := by decide +kernel
theorem dX9_warmthOf_5 : decode cX9_warmthOf 5 = .ok (.iaload, 1) := by decide +kernel
theorem dX9_warmthOf_6 : decode cX9_warmthOf 6 = .ok (.iconst 1, 1) := by decide +kernel
theorem dX9_warmthOf_7 : decode cX9_warmthOf 7 = .ok (.if_icmp .ne 12, 3) := by decide +kernel
theorem dX9_warmthOf_10 : decode cX9_warmthOf 10 = .ok (.aload_n 0, 1) := by decide +kernel
theorem dX9_warmthOf_11 : decode cX9_warmthOf 11 = .ok (.getfield 20, 3) := by decide +kernel
theorem dX9_warmthOf_14 : decode cX9_warmthOf 14 = .ok (.iload_n 1, 1) := by decide +kernel
theorem dX9_warmthOf_15 : decode cX9_warmthOf 15 = .ok (.iaload, 1) := by decide +kernel
theorem dX9_warmthOf_16 : decode cX9_warmthOf 16 = .ok (.goto 9, 3) := by decide +kernel
theorem dX9_warmthOf_19 : decode cX9_warmthOf 19 = .ok (.aload_n 0, 1) := by decide +kernel
theorem dX9_warmthOf_20 : decode cX9_warmthOf 20 = .ok (.getfield 13, 3) := by decide +kernel
theorem dX9_warmthOf_23 : decode cX9_warmthOf 23 = .ok (.iload_n 2, 1) := by decide +kernel
theorem dX9_warmthOf_24 : decode cX9_warmthOf 24 = .ok (.iaload, 1) := by decide +kernel
theorem dX9_warmthOf_25 : decode cX9_warmthOf 25 = .ok (.ireturn, 1) := by decide +kernel
theorem dX9_watchAt_0 : decode cX9_watchAt 0 = .ok (.iload_n 1, 1) := by decide +kernel
theorem dX9_watchAt_1 : decode cX9_watchAt 1 = .ok (.invokestatic 152, 3) := by decide +kernel
theorem dX9_watchAt_4 : decode cX9_watchAt 4 = .ok (.ifCond .ne 7, 3) := by decide +kernel
theorem dX9_watchAt_7 : decode cX9_watchAt 7 = .ok (.iconst (-1), 1) := by decide +kernel
theorem dX9_watchAt_8 : decode cX9_watchAt 8 = .ok (.goto 35, 3) := by decide +kernel
theorem dX9_watchAt_11 : decode cX9_watchAt 11 = .ok (.aload_n 0, 1) := by decide +kernel
theorem dX9_watchAt_12 : decode cX9_watchAt 12 = .ok (.getfield 17, 3) := by decide +kernel
theorem dX9_watchAt_15 : decode cX9_watchAt 15 = .ok (.iload_n 1, 1) := by decide +kernel
theorem dX9_watchAt_16 : decode cX9_watchAt 16 = .ok (.iaload, 1) := by decide +kernel
theorem dX9_watchAt_17 : decode cX9_watchAt 17 = .ok (.bipush (-5), 2) := by decide +kernel
theorem dX9_watchAt_19 : decode cX9_watchAt 19 = .ok (.if_icmp .ne 8, 3) := by decide +kernel
theorem dX9_watchAt_22 : decode cX9_watchAt 22 = .ok (.bipush (-2), 2) := by decide +kernel
theorem dX9_watchAt_24 : decode cX9_watchAt 24 = .ok (.goto 19, 3) := by decide +kernel
theorem dX9_watchAt_27 : decode cX9_watchAt 27 = .ok (.aload_n 0, 1) := by decide +kernel
theorem dX9_watchAt_28 : decode cX9_watchAt 28 = .ok (.getfield 17, 3) := by decide +kernel
theorem dX9_watchAt_31 : decode cX9_watchAt 31 = .ok (.iload_n 1, 1) := by decide +kernel
theorem dX9_watchAt_32 : decode cX9_watchAt 32 = .ok (.iaload, 1) := by decide +kernel
theorem dX9_watchAt_33 : decode cX9_watchAt 33 = .ok (.iconst 2, 1) := by decide +kernel
theorem dX9_watchAt_34 : decode cX9_watchAt 34 = .ok (.if_icmp .ne 8, 3) := by decide +kernel
theorem dX9_watchAt_37 : decode cX9_watchAt 37 = .ok (.bipush (-3), 2) := by decide +kernel
theorem dX9_watchAt_39 : decode cX9_watchAt 39 = .ok (.goto 4, 3) := by decide +kernel
theorem dX9_watchAt_42 : decode cX9_watchAt 42 = .ok (.iconst 0, 1) := by decide +kernel
theorem dX9_watchAt_43 : decode cX9_watchAt 43 = .ok (.ireturn, 1) := by decide +kernel
