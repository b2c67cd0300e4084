theorem dX3_dayFarthestOff_0 : decode cX3_dayFarthestOff 0 = .ok (.aload_n 0, 1) := by decide +kernel
theorem dX3_dayFarthestOff_1 : decode cX3_dayFarthestOff 1 = .ok (.getfield 21, 3) := by decide +kernel
theorem dX3_dayFarthestOff_4 : decode cX3_dayFarthestOff 4 = .ok (.ifCond .ne 6, 3) := by decide +kernel
theorem dX3_dayFarthestOff_7 : decode cX3_dayFarthestOff 7 = .ok (.bipush (-4), 2) := by decide +kernel
theorem dX3_dayFarthestOff_9 : decode cX3_dayFarthestOff 9 = .ok (.ireturn, 1) := by decide +kernel
theorem dX3_dayFarthestOff_10 : decode cX3_dayFarthestOff 10 = .ok (.aload_n 0, 1) := by decide +kernel
theorem dX3_dayFarthestOff_11 : decode cX3_dayFarthestOff 11 = .ok (.invokevirtual 49, 3) := by decide +kernel
theorem dX3_dayFarthestOff_14 : decode cX3_dayFarthestOff 14 = .ok (.istore_n 2, 1) := by decide +kernel
theorem dX3_dayFarthestOff_15 : decode cX3_dayFarthestOff 15 = .ok (.iload_n 1, 1) := by decide +kernel
theorem dX3_dayFarthestOff_16 : decode cX3_dayFarthestOff 16 = .ok (.istore_n 3, 1) := by decide +kernel
theorem dX3_dayFarthestOff_17 : decode cX3_dayFarthestOff 17 = .ok (.bipush (-4), 2) := by decide +kernel
theorem dX3_dayFarthestOff_19 : decode cX3_dayFarthestOff 19 = .ok (.istore 4, 2) := by decide +kernel
theorem dX3_dayFarthestOff_21 : decode cX3_dayFarthestOff 21 = .ok (.iconst 0, 1) := by decide +kernel
theorem dX3_dayFarthestOff_22 : decode cX3_dayFarthestOff 22 = .ok (.istore 5, 2) := by decide +kernel
theorem dX3_dayFarthestOff_24 : decode cX3_dayFarthestOff 24 = .ok (.iload 5, 2) := by decide +kernel
theorem dX3_dayFarthestOff_26 : decode cX3_dayFarthestOff 26 = .ok (.aload_n 0, 1) := by decide +kernel
theorem dX3_dayFarthestOff_27 : decode cX3_dayFarthestOff 27 = .ok (.getfield 21, 3) := by decide +kernel
theorem dX3_dayFarthestOff_30 : decode cX3_dayFarthestOff 30 = .ok (.if_icmp .ge 41, 3) := by decide +kernel
theorem dX3_dayFarthestOff_33 : decode cX3_dayFarthestOff 33 = .ok (.aload_n 0, 1) := by decide +kernel
theorem dX3_dayFarthestOff_34 : decode cX3_dayFarthestOff 34 = .ok (.getfield 15, 3) := by decide +kernel
theorem dX3_dayFarthestOff_37 : decode cX3_dayFarthestOff 37 = .ok (.iload 5, 2) := by decide +kernel
theorem dX3_dayFarthestOff_39 : decode cX3_dayFarthestOff 39 = .ok (.iaload, 1) := by decide +kernel
theorem dX3_dayFarthestOff_40 : decode cX3_dayFarthestOff 40 = .ok (.iload_n 2, 1) := by decide +kernel
theorem dX3_dayFarthestOff_41 : decode cX3_dayFarthestOff 41 = .ok (.isub, 1) := by decide +kernel
theorem dX3_dayFarthestOff_42 : decode cX3_dayFarthestOff 42 = .ok (.invokestatic 45, 3) := by decide +kernel
theorem dX3_dayFarthestOff_45 : decode cX3_dayFarthestOff 45 = .ok (.istore 6, 2) := by decide +kernel
theorem dX3_dayFarthestOff_47 : decode cX3_dayFarthestOff 47 = .ok (.iload 6, 2) := by decide +kernel
theorem dX3_dayFarthestOff_49 : decode cX3_dayFarthestOff 49 = .ok (.iload_n 3, 1) := by decide +kernel
theorem dX3_dayFarthestOff_50 : decode cX3_dayFarthestOff 50 = .ok (.if_icmp .le 15, 3) := by decide +kernel
theorem dX3_dayFarthestOff_53 : decode cX3_dayFarthestOff 53 = .ok (.iload 6, 2) := by decide +kernel
theorem dX3_dayFarthestOff_55 : decode cX3_dayFarthestOff 55 = .ok (.istore_n 3, 1) := by decide +kernel
theorem dX3_dayFarthestOff_56 : decode cX3_dayFarthestOff 56 = .ok (.aload_n 0, 1) := by decide +kernel
theorem dX3_dayFarthestOff_57 : decode cX3_dayFarthestOff 57 = .ok (.getfield 9, 3) := by decide +kernel
theorem dX3_dayFarthestOff_60 : decode cX3_dayFarthestOff 60 = .ok (.iload 5, 2) := by decide +kernel
theorem dX3_dayFarthestOff_62 : decode cX3_dayFarthestOff 62 = .ok (.iaload, 1) := by decide +kernel
theorem dX3_dayFarthestOff_63 : decode cX3_dayFarthestOff 63 = .ok (.istore 4, 2) := by decide +kernel
theorem dX3_dayFarthestOff_65 : decode cX3_dayFarthestOff 65 = .ok (.iinc 5 1, 3) := by decide +kernel
theorem dX3_dayFarthestOff_68 : decode cX3_dayFarthestOff 68 = .ok (.goto (-44), 3) := by decide +kernel
theorem dX3_dayFarthestOff_71 : decode cX3_dayFarthestOff 71 = .ok (.iload 4, 2) := by decide +kernel
theorem dX3_dayFarthestOff_73 : decode cX3_dayFarthestOff 73 = .ok (.ireturn, 1) := by decide +kernel
theorem dX3_drift_0 : decode cX3_drift 0 = .ok (.aload_n 0, 1) := by decide +kernel
theorem dX3_drift_1 : decode cX3_drift 1 = .ok (.getfield 21, 3) := by decide +kernel
theorem dX3_drift_4 : decode cX3_drift 4 = .ok (.ifCond .ne 7, 3) := by decide +kernel
theorem dX3_drift_7 : decode cX3_drift 7 = .ok (.iconst 0, 1) := by decide +kernel
theorem dX3_drift_8 : decode cX3_drift 8 = .ok (.goto 21, 3) := by decide +kernel
theorem dX3_drift_11 : decode cX3_drift 11 = .ok (.aload_n 0, 1) := by decide +kernel
theorem dX3_drift_12 : decode cX3_drift 12 = .ok (.getfield 15, 3) := by decide +kernel
theorem dX3_drift_15 : decode cX3_drift 15 = .ok (.aload_n 0, 1) := by decide +kernel
theorem dX3_drift_16 : decode cX3_drift 16 = .ok (.getfield 21, 3) := by decide +kernel
theorem dX3_drift_19 : decode cX3_drift 19 = .ok (.iconst 1, 1) := by decide +kernel
theorem dX3_drift_20 : decode cX3_drift 20 = .ok (.isub, 1) := by decide +kernel
theorem dX3_drift_21 : decode cX3_drift 21 = .ok (.iaload, 1) := by decide +kernel
theorem dX3_drift_22 : decode cX3_drift 22 = .ok (.aload_n 0, 1) := by decide +kernel
theorem dX3_drift_23 : decode cX3_drift 23 = .ok (.getfield 15, 3) := by decide +kernel
theorem dX3_drift_26 : decode cX3_drift 26 = .ok (.iconst 0, 1) := by decide +kernel
theorem dX3_drift_27 : decode cX3_drift 27 = .ok (.iaload, 1) := by decide +kernel
theorem dX3_drift_28 : decode cX3_drift 28 = .ok (.isub, 1) := by decide +kernel
theorem dX3_drift_29 : decode cX3_drift 29 = .ok (.ireturn, 1) := by decide +kernel
theorem dX3_gather_0 : decode cX3_gather 0 = .ok (.aload_n 0, 1) := by decide +kernel
theorem dX3_gather_1 : decode cX3_gather 1 = .ok (.iconst 0, 1) := by decide +kernel
theorem dX3_gather_2 : decode cX3_gather 2 = .ok (.putfield 21, 3) := by decide +kernel
theorem dX3_gather_5 : decode cX3_gather 5 = .ok (.aload_n 1, 1) := by decide +kernel
theorem dX3_gather_6 : decode cX3_gather 6 = .ok (.ifnonnull 4, 3) := by decide +kernel
theorem dX3_gather_9 : decode cX3_gather 9 = .ok (.return_, 1) := by decide +kernel
theorem dX3_gather_10 : decode cX3_gather 10 = .ok (.aload_n 1, 1) := by decide +kernel
theorem dX3_gather_11 : decode cX3_gather 11 = .ok (.iload_n 3, 1) := by decide +kernel
theorem dX3_gather_12 : decode cX3_gather 12 = .ok (.aload_n 2, 1) := by decide +kernel
theorem dX3_gather_13 : decode cX3_gather 13 = .ok (.iconst (-1), 1) := by decide +kernel
theorem dX3_gather_14 : decode cX3_gather 14 = .ok (.invokevirtual 25, 3) := by decide +kernel
theorem dX3_gather_17 : decode cX3_gather 17 = .ok (.istore 5, 2) := by decide +kernel
theorem dX3_gather_19 : decode cX3_gather 19 = .ok (.iload_n 3, 1) := by decide +kernel
theorem dX3_gather_20 : decode cX3_gather 20 = .ok (.istore 6, 2) := by decide +kernel
theorem dX3_gather_22 : decode cX3_gather 22 = .ok (.iload 6, 2) := by decide +kernel
theorem dX3_gather_24 : decode cX3_gather 24 = .ok (.iload 4, 2) := by decide +kernel
theorem dX3_gather_26 : decode cX3_gather 26 = .ok (.if_icmp .ge 85, 3) := by decide +kernel
theorem dX3_gather_29 : decode cX3_gather 29 = .ok (.aload_n 0, 1) := by decide +kernel
theorem dX3_gather_30 : decode cX3_gather 30 = .ok (.getfield 21, 3) := by decide +kernel
theorem dX3_gather_33 : decode cX3_gather 33 = .ok (.bipush 60, 2) := by decide +kernel
theorem dX3_gather_35 : decode cX3_gather 35 = .ok (.if_icmp .ge 76, 3) := by decide +kernel
theorem dX3_gather_38 : decode cX3_gather 38 = .ok (.aload_n 1, 1) := by decide +kernel
theorem dX3_gather_39 : decode cX3_gather 39 = .ok (.iload 6, 2) := by decide +kernel
theorem dX3_gather_41 : decode cX3_gather 41 = .ok (.iconst 1, 1) := by decide +kernel
theorem dX3_gather_42 : decode cX3_gather 42 = .ok (.iadd, 1) := by decide +kernel
theorem dX3_gather_43 : decode cX3_gather 43 = .ok (.aload_n 2, 1) := by decide +kernel
theorem dX3_gather_44 : decode cX3_gather 44 = .ok (.iconst (-1), 1) := by decide +kernel
theorem dX3_gather_45 : decode cX3_gather 45 = .ok (.invokevirtual 25, 3) := by decide +kernel
theorem dX3_gather_48 : decode cX3_gather 48 = .ok (.istore 7, 2) := by decide +kernel
theorem dX3_gather_50 : decode cX3_gather 50 = .ok (.aload_n 1, 1) := by decide +kernel
theorem dX3_gather_51 : decode cX3_gather 51 = .ok (.iload 6, 2) := by decide +kernel
theorem dX3_gather_53 : decode cX3_gather 53 = .ok (.iload 5, 2) := by decide +kernel
theorem dX3_gather_55 : decode cX3_gather 55 = .ok (.iload 7, 2) := by decide +kernel
theorem dX3_gather_57 : decode cX3_gather 57 = .ok (.invokevirtual 31, 3) := by decide +kernel
theorem dX3_gather_60 : decode cX3_gather 60 = .ok (.istore 8, 2) := by decide +kernel
theorem dX3_gather_62 : decode cX3_gather 62 = .ok (.iload 8, 2) := by decide +kernel
theorem dX3_gather_64 : decode cX3_gather 64 = .ok (.ldc 35, 2) := by decide +kernel
theorem dX3_gather_66 : decode cX3_gather 66 = .ok (.if_icmp .eq 35, 3) := by decide +kernel
theorem dX3_gather_69 : decode cX3_gather 69 = .ok (.aload_n 0, 1) := by decide +kernel
theorem dX3_gather_70 : decode cX3_gather 70 = .ok (.getfield 9, 3) := by decide +kernel
theorem dX3_gather_73 : decode cX3_gather 73 = .ok (.aload_n 0, 1) := by decide +kernel
theorem dX3_gather_74 : decode cX3_gather 74 = .ok (.getfield 21, 3) := by decide +kernel
theorem dX3_gather_77 : decode cX3_gather 77 = .ok (.iload 6, 2) := by decide +kernel
theorem dX3_gather_79 : decode cX3_gather 79 = .ok (.iastore, 1) := by decide +kernel
theorem dX3_gather_80 : decode cX3_gather 80 = .ok (.aload_n 0, 1) := by decide +kernel
theorem dX3_gather_81 : decode cX3_gather 81 = .ok (.getfield 15, 3) := by decide +kernel
theorem dX3_gather_84 : decode cX3_gather 84 = .ok (.aload_n 0, 1) := by decide +kernel
theorem dX3_gather_85 : decode cX3_gather 85 = .ok (.getfield 21, 3) := by decide +kernel
theorem dX3_gather_88 : decode cX3_gather 88 = .ok (.iload 8, 2) := by decide +kernel
theorem dX3_gather_90 : decode cX3_gather 90 = .ok (.iastore, 1) := by decide +kernel
theorem dX3_gather_91 : decode cX3_gather 91 = .ok (.aload_n 0, 1) := by decide +kernel
theorem dX3_gather_92 : decode cX3_gather 92 = .ok (.dup, 1) := by decide +kernel
theorem dX3_gather_93 : decode cX3_gather 93 = .ok (.getfield 21, 3) := by decide +kernel
theorem dX3_gather_96 : decode cX3_gather 96 = .ok (.iconst 1, 1) := by decide +kernel
theorem dX3_gather_97 : decode cX3_gather 97 = .ok (.iadd, 1) := by decide +kernel
theorem dX3_gather_98 : decode cX3_gather 98 = .ok (.putfield 21, 3) := by decide +kernel
theorem dX3_gather_101 : decode cX3_gather 101 = .ok (.iload 7, 2) := by decide +kernel
theorem dX3_gather_103 : decode cX3_gather 103 = .ok (.istore 5, 2) := by decide +kernel
theorem dX3_gather_105 : decode cX3_gather 105 = .ok (.iinc 6 1, 3) := by decide +kernel
theorem dX3_gather_108 : decode cX3_gather 108 = .ok (.goto (-86), 3) := by decide +kernel
theorem dX3_gather_111 : decode cX3_gather 111 = .ok (.return_, 1) := by decide +kernel
theorem dX3_greatestStep_0 : decode cX3_greatestStep 0 = .ok (.iconst 0, 1) := by decide +kernel
theorem dX3_greatestStep_1 : decode cX3_greatestStep 1 = .ok (.istore_n 1, 1) := by decide +kernel
theorem dX3_greatestStep_2 : decode cX3_greatestStep 2 = .ok (.iconst 1, 1) := by decide +kernel
theorem dX3_greatestStep_3 : decode cX3_greatestStep 3 = .ok (.istore_n 2, 1) := by decide +kernel
theorem dX3_greatestStep_4 : decode cX3_greatestStep 4 = .ok (.iload_n 2, 1) := by decide +kernel
theorem dX3_greatestStep_5 : decode cX3_greatestStep 5 = .ok (.aload_n 0, 1) := by decide +kernel
theorem dX3_greatestStep_6 : decode cX3_greatestStep 6 = .ok (.getfield 21, 3) := by decide +kernel
theorem dX3_greatestStep_9 : decode cX3_greatestStep 9 = .ok (.if_icmp .ge 32, 3) := by decide +kernel
theorem dX3_greatestStep_12 : decode cX3_greatestStep 12 = .ok (.iload_n 1, 1) := by decide +kernel
theorem dX3_greatestStep_13 : decode cX3_greatestStep 13 = .ok (.aload_n 0, 1) := by decide +kernel
theorem dX3_greatestStep_14 : decode cX3_greatestStep 14 = .ok (.getfield 15, 3) := by decide +kernel
theorem dX3_greatestStep_17 : decode cX3_greatestStep 17 = .ok (.iload_n 2, 1) := by decide +kernel
theorem dX3_greatestStep_18 : decode cX3_greatestStep 18 = .ok (.iaload, 1) := by decide +kernel
theorem dX3_greatestStep_19 : decode cX3_greatestStep 19 = .ok (.aload_n 0, 1) := by decide +kernel
theorem dX3_greatestStep_20 : decode cX3_greatestStep 20 = .ok (.getfield 15, 3) := by decide +kernel
theorem dX3_greatestStep_23 : decode cX3_greatestStep 23 = .ok (.iload_n 2, 1) := by decide +kernel
theorem dX3_greatestStep_24 : decode cX3_greatestStep 24 = .ok (.iconst 1, 1) := by decide +kernel
theorem dX3_greatestStep_25 : decode cX3_greatestStep 25 = .ok (.isub, 1) := by decide +kernel
theorem dX3_greatestStep_26 : decode cX3_greatestStep 26 = .ok (.iaload, 1) := by decide +kernel
theorem dX3_greatestStep_27 : decode cX3_greatestStep 27 = .ok (.isub, 1) := by decide +kernel
theorem dX3_greatestStep_28 : decode cX3_greatestStep 28 = .ok (.invokestatic 45, 3) := by decide +kernel
theorem dX3_greatestStep_31 : decode cX3_greatestStep 31 = .ok (.invokestatic 42, 3) := by decide +kernel
theorem dX3_greatestStep_34 : decode cX3_greatestStep 34 = .ok (.istore_n 1, 1) := by decide +kernel
theorem dX3_greatestStep_35 : decode cX3_greatestStep 35 = .ok (.iinc 2 1, 3) := by decide +kernel
theorem dX3_greatestStep_38 : decode cX3_greatestStep 38 = .ok (.goto (-34), 3) := by decide +kernel
theorem dX3_greatestStep_41 : decode cX3_greatestStep 41 = .ok (.iload_n 1, 1) := by decide +kernel
theorem dX3_greatestStep_42 : decode cX3_greatestStep 42 = .ok (.ireturn, 1) := by decide +kernel
theorem dX3_least_0 : decode cX3_least 0 = .ok (.sipush 999, 3) := by decide +kernel
theorem dX3_least_3 : decode cX3_least 3 = .ok (.istore_n 1, 1) := by decide +kernel
theorem dX3_least_4 : decode cX3_least 4 = .ok (.iconst 0, 1) := by decide +kernel
theorem dX3_least_5 : decode cX3_least 5 = .ok (.istore_n 2, 1) := by decide +kernel
theorem dX3_least_6 : decode cX3_least 6 = .ok (.iload_n 2, 1) := by decide +kernel
theorem dX3_least_7 : decode cX3_least 7 = .ok (.aload_n 0, 1) := by decide +kernel
theorem dX3_least_8 : decode cX3_least 8 = .ok (.getfield 21, 3) := by decide +kernel
theorem dX3_least_11 : decode cX3_least 11 = .ok (.if_icmp .ge 20, 3) := by decide +kernel
theorem dX3_least_14 : decode cX3_least 14 = .ok (.iload_n 1, 1) := by decide +kernel
theorem dX3_least_15 : decode cX3_least 15 = .ok (.aload_n 0, 1) := by decide +kernel
theorem dX3_least_16 : decode cX3_least 16 = .ok (.getfield 15, 3) := by decide +kernel
theorem dX3_least_19 : decode cX3_least 19 = .ok (.iload_n 2, 1) := by decide +kernel
theorem dX3_least_20 : decode cX3_least 20 = .ok (.iaload, 1) := by decide +kernel
theorem dX3_least_21 : decode cX3_least 21 = .ok (.invokestatic 36, 3) := by decide +kernel
theorem dX3_least_24 : decode cX3_least 24 = .ok (.istore_n 1, 1) := by decide +kernel
theorem dX3_least_25 : decode cX3_least 25 = .ok (.iinc 2 1, 3) := by decide +kernel
theorem dX3_least_28 : decode cX3_least 28 = .ok (.goto (-22), 3) := by decide +kernel
theorem dX3_least_31 : decode cX3_least 31 = .ok (.iload_n 1, 1) := by decide +kernel
theorem dX3_least_32 : decode cX3_least 32 = .ok (.ireturn, 1) := by decide +kernel
theorem dX3_middleOne_0 : decode cX3_middleOne 0 = .ok (.iconst 0, 1) := by decide +kernel
theorem dX3_middleOne_1 : decode cX3_middleOne 1 = .ok (.istore_n 1, 1) := by decide +kernel
theorem dX3_middleOne_2 : decode cX3_middleOne 2 = .ok (.iload_n 1, 1) := by decide +kernel
theorem dX3_middleOne_3 : decode cX3_middleOne 3 = .ok (.aload_n 0, 1) := by decide +kernel
theorem dX3_middleOne_4 : decode cX3_middleOne 4 = .ok (.getfield 21, 3) := by decide +kernel
theorem dX3_middleOne_7 : decode cX3_middleOne 7 = .ok (.if_icmp .ge 64, 3) := by decide +kernel
theorem dX3_middleOne_10 : decode cX3_middleOne 10 = .ok (.iload_n 1, 1) := by decide +kernel
theorem dX3_middleOne_11 : decode cX3_middleOne 11 = .ok (.istore_n 2, 1) := by decide +kernel
theorem dX3_middleOne_12 : decode cX3_middleOne 12 = .ok (.iload_n 2, 1) := by decide +kernel
theorem dX3_middleOne_13 : decode cX3_middleOne 13 = .ok (.ifCond .le 40, 3) := by decide +kernel
theorem dX3_middleOne_16 : decode cX3_middleOne 16 = .ok (.aload_n 0, 1) := by decide +kernel
theorem dX3_middleOne_17 : decode cX3_middleOne 17 = .ok (.getfield 18, 3) := by decide +kernel
theorem dX3_middleOne_20 : decode cX3_middleOne 20 = .ok (.iload_n 2, 1) := by decide +kernel
theorem dX3_middleOne_21 : decode cX3_middleOne 21 = .ok (.iconst 1, 1) := by decide +kernel
theorem dX3_middleOne_22 : decode cX3_middleOne 22 = .ok (.isub, 1) := by decide +kernel
theorem dX3_middleOne_23 : decode cX3_middleOne 23 = .ok (.iaload, 1) := by decide +kernel
theorem dX3_middleOne_24 : decode cX3_middleOne 24 = .ok (.aload_n 0, 1) := by decide +kernel
theorem dX3_middleOne_25 : decode cX3_middleOne 25 = .ok (.getfield 15, 3) := by decide +kernel
theorem dX3_middleOne_28 : decode cX3_middleOne 28 = .ok (.iload_n 1, 1) := by decide +kernel
theorem dX3_middleOne_29 : decode cX3_middleOne 29 = .ok (.iaload, 1) := by decide +kernel
theorem dX3_middleOne_30 : decode cX3_middleOne 30 = .ok (.if_icmp .le 23, 3) := by decide +kernel
theorem dX3_middleOne_33 : decode cX3_middleOne 33 = .ok (.aload_n 0, 1) := by decide +kernel
theorem dX3_middleOne_34 : decode cX3_middleOne 34 = .ok (.getfield 18, 3) := by decide +kernel
theorem dX3_middleOne_37 : decode cX3_middleOne 37 = .ok (.iload_n 2, 1) := by decide +kernel
theorem dX3_middleOne_38 : decode cX3_middleOne 38 = .ok (.aload_n 0, 1) := by decide +kernel
theorem dX3_middleOne_39 : decode cX3_middleOne 39 = .ok (.getfield 18, 3) := by decide +kernel
theorem dX3_middleOne_42 : decode cX3_middleOne 42 = .ok (.iload_n 2, 1) := by decide +kernel
theorem dX3_middleOne_43 : decode cX3_middleOne 43 = .ok (.iconst 1, 1) := by decide +kernel
theorem dX3_middleOne_44 : decode cX3_middleOne 44 = .ok (.isub, 1) := by decide +kernel
theorem dX3_middleOne_45 : decode cX3_middleOne 45 = .ok (.iaload, 1) := by decide +kernel
theorem dX3_middleOne_46 : decode cX3_middleOne 46 = .ok (.iastore, 1) := by decide +kernel
theorem dX3_middleOne_47 : decode cX3_middleOne 47 = .ok (.iinc 2 (-1), 3) := by decide +kernel
theorem dX3_middleOne_50 : decode cX3_middleOne 50 = .ok (.goto (-38), 3) := by decide +kernel
theorem dX3_middleOne_53 : decode cX3_middleOne 53 = .ok (.aload_n 0, 1) := by decide +kernel
theorem dX3_middleOne_54 : decode cX3_middleOne 54 = .ok (.getfield 18, 3) := by decide +kernel
theorem dX3_middleOne_57 : decode cX3_middleOne 57 = .ok (.iload_n 2, 1) := by decide +kernel
theorem dX3_middleOne_58 : decode cX3_middleOne 58 = .ok (.aload_n 0, 1) := by decide +kernel
theorem dX3_middleOne_59 : decode cX3_middleOne 59 = .ok (.getfield 15, 3) := by decide +kernel
theorem dX3_middleOne_62 : decode cX3_middleOne 62 = .ok (.iload_n 1, 1) := by decide +kernel
theorem dX3_middleOne_63 : decode cX3_middleOne 63 = .ok (.iaload, 1) := by decide +kernel
theorem dX3_middleOne_64 : decode cX3_middleOne 64 = .ok (.iastore, 1) := by decide +kernel
theorem dX3_middleOne_65 : decode cX3_middleOne 65 = .ok (.iinc 1 1, 3) := by decide +kernel
theorem dX3_middleOne_68 : decode cX3_middleOne 68 = .ok (.goto (-66), 3) := by decide +kernel
theorem dX3_middleOne_71 : decode cX3_middleOne 71 = .ok (.aload_n 0, 1) := by decide +kernel
theorem dX3_middleOne_72 : decode cX3_middleOne 72 = .ok (.getfield 21, 3) := by decide +kernel
theorem dX3_middleOne_75 : decode cX3_middleOne 75 = .ok (.ifCond .ne 7, 3) := by decide +kernel
theorem dX3_middleOne_78 : decode cX3_middleOne 78 = .ok (.iconst 0, 1) := by decide +kernel
theorem dX3_middleOne_79 : decode cX3_middleOne 79 = .ok (.goto 16, 3) := by decide +kernel
theorem dX3_middleOne_82 : decode cX3_middleOne 82 = .ok (.aload_n 0, 1) := by decide +kernel
theorem dX3_middleOne_83 : decode cX3_middleOne 83 = .ok (.getfield 18, 3) := by decide +kernel
theorem dX3_middleOne_86 : decode cX3_middleOne 86 = .ok (.aload_n 0, 1) := by decide +kernel
theorem dX3_middleOne_87 : decode cX3_middleOne 87 = .ok (.getfield 21, 3) := by decide +kernel
theorem dX3_middleOne_90 : decode cX3_middleOne 90 = .ok (.iconst 1, 1) := by decide +kernel
theorem dX3_middleOne_91 : decode cX3_middleOne 91 = .ok (.isub, 1) := by decide +kernel
theorem dX3_middleOne_92 : decode cX3_middleOne 92 = .ok (.iconst 2, 1) := by decide +kernel
theorem dX3_middleOne_93 : decode cX3_middleOne 93 = .ok (.idiv, 1) := by decide +kernel
theorem dX3_middleOne_94 : decode cX3_middleOne 94 = .ok (.iaload, 1) := by decide +kernel
theorem dX3_middleOne_95 : decode cX3_middleOne 95 = .ok (.ireturn, 1) := by decide +kernel
theorem dX3_most_0 : decode cX3_most 0 = .ok (.sipush (-999), 3) := by decide +kernel
theorem dX3_most_3 : decode cX3_most 3 = .ok (.istore_n 1, 1) := by decide +kernel
theorem dX3_most_4 : decode cX3_most 4 = .ok (.iconst 0, 1) := by decide +kernel
theorem dX3_most_5 : decode cX3_most 5 = .ok (.istore_n 2, 1) := by decide +kernel
theorem dX3_most_6 : decode cX3_most 6 = .ok (.iload_n 2, 1) := by decide +kernel
theorem dX3_most_7 : decode cX3_most 7 = .ok (.aload_n 0, 1) := by decide +kernel
theorem dX3_most_8 : decode cX3_most 8 = .ok (.getfield 21, 3) := by decide +kernel
theorem dX3_most_11 : decode cX3_most 11 = .ok (.if_icmp .ge 20, 3) := by decide +kernel
theorem dX3_most_14 : decode cX3_most 14 = .ok (.iload_n 1, 1) := by decide +kernel
theorem dX3_most_15 : decode cX3_most 15 = .ok (.aload_n 0, 1) := by decide +kernel
theorem dX3_most_16 : decode cX3_most 16 = .ok (.getfield 15, 3) := by decide +kernel
theorem dX3_most_19 : decode cX3_most 19 = .ok (.iload_n 2, 1) := by decide +kernel
theorem dX3_most_20 : decode cX3_most 20 = .ok (.iaload, 1) := by decide +kernel
theorem dX3_most_21 : decode cX3_most 21 = .ok (.invokestatic 42, 3) := by decide +kernel
theorem dX3_most_24 : decode cX3_most 24 = .ok (.istore_n 1, 1) := by decide +kernel
theorem dX3_most_25 : decode cX3_most 25 = .ok (.iinc 2 1, 3) := by decide +kernel
theorem dX3_most_28 : decode cX3_most 28 = .ok (.goto (-22), 3) := by decide +kernel
theorem dX3_most_31 : decode cX3_most 31 = .ok (.iload_n 1, 1) := by decide +kernel
theorem dX3_most_32 : decode cX3_most 32 = .ok (.ireturn, 1) := by decide +kernel
theorem dX3_sum_0 : decode cX3_sum 0 = .ok (.iconst 0, 1) := by decide +kernel
theorem dX3_sum_1 : decode cX3_sum 1 = .ok (.istore_n 1, 1) := by decide +kernel
theorem dX3_sum_2 : decode cX3_sum 2 = .ok (.iconst 0, 1) := by decide +kernel
theorem dX3_sum_3 : decode cX3_sum 3 = .ok (.istore_n 2, 1) := by decide +kernel
theorem dX3_sum_4 : decode cX3_sum 4 = .ok (.iload_n 2, 1) := by decide +kernel
theorem dX3_sum_5 : decode cX3_sum 5 = .ok (.aload_n 0, 1) := by decide +kernel
theorem dX3_sum_6 : decode cX3_sum 6 = .ok (.getfield 21, 3) := by decide +kernel
theorem dX3_sum_9 : decode cX3_sum 9 = .ok (.if_icmp .ge 18, 3) := by decide +kernel
theorem dX3_sum_12 : decode cX3_sum 12 = .ok (.iload_n 1, 1) := by decide +kernel
theorem dX3_sum_13 : decode cX3_sum 13 = .ok (.aload_n 0, 1) := by decide +kernel
theorem dX3_sum_14 : decode cX3_sum 14 = .ok (.getfield 15, 3) := by decide +kernel
theorem dX3_sum_17 : decode cX3_sum 17 = .ok (.iload_n 2, 1) := by decide +kernel
theorem dX3_sum_18 : decode cX3_sum 18 = .ok (.iaload, 1) := by decide +kernel
theorem dX3_sum_19 : decode cX3_sum 19 = .ok (.iadd, 1) := by decide +kernel
theorem dX3_sum_20 : decode cX3_sum 20 = .ok (.istore_n 1, 1) := by decide +kernel
theorem dX3_sum_21 : decode cX3_sum 21 = .ok (.iinc 2 1, 3) := by decide +kernel
theorem dX3_sum_24 : decode cX3_sum 24 = .ok (.goto (-20), 3) := by decide +kernel
theorem dX3_sum_27 : decode cX3_sum 27 = .ok (.iload_n 1, 1) := by decide +kernel
theorem dX3_sum_28 : decode cX3_sum 28 = .ok (.ireturn, 1) := by decide +kernel
