theorem dX0_add_0 : decode cX0_add 0 = .ok (.aload_n 0, 1) := by decide +kernel
theorem dX0_add_1 : decode cX0_add 1 = .ok (.getfield 27, 3) := by decide +kernel
theorem dX0_add_4 : decode cX0_add 4 = .ok (.bipush 9, 2) := by decide +kernel
theorem dX0_add_6 : decode cX0_add 6 = .ok (.if_icmp .ge 23, 3) := by decide +kernel
theorem dX0_add_9 : decode cX0_add 9 = .ok (.aload_n 0, 1) := by decide +kernel
theorem dX0_add_10 : decode cX0_add 10 = .ok (.getfield 9, 3) := by decide +kernel
theorem dX0_add_13 : decode cX0_add 13 = .ok (.aload_n 0, 1) := by decide +kernel
theorem dX0_add_14 : decode cX0_add 14 = .ok (.getfield 27, 3) := by decide +kernel
theorem dX0_add_17 : decode cX0_add 17 = .ok (.iload_n 1, 1) := by decide +kernel
theorem dX0_add_18 : decode cX0_add 18 = .ok (.iastore, 1) := by decide +kernel
theorem dX0_add_19 : decode cX0_add 19 = .ok (.aload_n 0, 1) := by decide +kernel
theorem dX0_add_20 : decode cX0_add 20 = .ok (.dup, 1) := by decide +kernel
theorem dX0_add_21 : decode cX0_add 21 = .ok (.getfield 27, 3) := by decide +kernel
theorem dX0_add_24 : decode cX0_add 24 = .ok (.iconst 1, 1) := by decide +kernel
theorem dX0_add_25 : decode cX0_add 25 = .ok (.iadd, 1) := by decide +kernel
theorem dX0_add_26 : decode cX0_add 26 = .ok (.putfield 27, 3) := by decide +kernel
theorem dX0_add_29 : decode cX0_add 29 = .ok (.return_, 1) := by decide +kernel
theorem dX0_keepIfBetter_0 : decode cX0_keepIfBetter 0 = .ok (.iconst 0, 1) := by decide +kernel
theorem dX0_keepIfBetter_1 : decode cX0_keepIfBetter 1 = .ok (.istore_n 1, 1) := by decide +kernel
theorem dX0_keepIfBetter_2 : decode cX0_keepIfBetter 2 = .ok (.iconst 0, 1) := by decide +kernel
theorem dX0_keepIfBetter_3 : decode cX0_keepIfBetter 3 = .ok (.istore_n 2, 1) := by decide +kernel
theorem dX0_keepIfBetter_4 : decode cX0_keepIfBetter 4 = .ok (.iload_n 2, 1) := by decide +kernel
theorem dX0_keepIfBetter_5 : decode cX0_keepIfBetter 5 = .ok (.aload_n 0, 1) := by decide +kernel
theorem dX0_keepIfBetter_6 : decode cX0_keepIfBetter 6 = .ok (.getfield 34, 3) := by decide +kernel
theorem dX0_keepIfBetter_9 : decode cX0_keepIfBetter 9 = .ok (.if_icmp .ge 35, 3) := by decide +kernel
theorem dX0_keepIfBetter_12 : decode cX0_keepIfBetter 12 = .ok (.iload_n 2, 1) := by decide +kernel
theorem dX0_keepIfBetter_13 : decode cX0_keepIfBetter 13 = .ok (.aload_n 0, 1) := by decide +kernel
theorem dX0_keepIfBetter_14 : decode cX0_keepIfBetter 14 = .ok (.getfield 21, 3) := by decide +kernel
theorem dX0_keepIfBetter_17 : decode cX0_keepIfBetter 17 = .ok (.arraylength, 1) := by decide +kernel
theorem dX0_keepIfBetter_18 : decode cX0_keepIfBetter 18 = .ok (.if_icmp .ge 26, 3) := by decide +kernel
theorem dX0_keepIfBetter_21 : decode cX0_keepIfBetter 21 = .ok (.iload_n 1, 1) := by decide +kernel
theorem dX0_keepIfBetter_22 : decode cX0_keepIfBetter 22 = .ok (.aload_n 0, 1) := by decide +kernel
theorem dX0_keepIfBetter_23 : decode cX0_keepIfBetter 23 = .ok (.getfield 21, 3) := by decide +kernel
theorem dX0_keepIfBetter_26 : decode cX0_keepIfBetter 26 = .ok (.iload_n 2, 1) := by decide +kernel
theorem dX0_keepIfBetter_27 : decode cX0_keepIfBetter 27 = .ok (.iaload, 1) := by decide +kernel
theorem dX0_keepIfBetter_28 : decode cX0_keepIfBetter 28 = .ok (.aload_n 0, 1) := by decide +kernel
theorem dX0_keepIfBetter_29 : decode cX0_keepIfBetter 29 = .ok (.iload_n 2, 1) := by decide +kernel
theorem dX0_keepIfBetter_30 : decode cX0_keepIfBetter 30 = .ok (.invokevirtual 57, 3) := by decide +kernel
theorem dX0_keepIfBetter_33 : decode cX0_keepIfBetter 33 = .ok (.imul, 1) := by decide +kernel
theorem dX0_keepIfBetter_34 : decode cX0_keepIfBetter 34 = .ok (.invokestatic 46, 3) := by decide +kernel
theorem dX0_keepIfBetter_37 : decode cX0_keepIfBetter 37 = .ok (.istore_n 1, 1) := by decide +kernel
theorem dX0_keepIfBetter_38 : decode cX0_keepIfBetter 38 = .ok (.iinc 2 1, 3) := by decide +kernel
theorem dX0_keepIfBetter_41 : decode cX0_keepIfBetter 41 = .ok (.goto (-37), 3) := by decide +kernel
theorem dX0_keepIfBetter_44 : decode cX0_keepIfBetter 44 = .ok (.iload_n 1, 1) := by decide +kernel
theorem dX0_keepIfBetter_45 : decode cX0_keepIfBetter 45 = .ok (.aload_n 0, 1) := by decide +kernel
theorem dX0_keepIfBetter_46 : decode cX0_keepIfBetter 46 = .ok (.getfield 37, 3) := by decide +kernel
theorem dX0_keepIfBetter_49 : decode cX0_keepIfBetter 49 = .ok (.if_icmp .ge 34, 3) := by decide +kernel
theorem dX0_keepIfBetter_52 : decode cX0_keepIfBetter 52 = .ok (.aload_n 0, 1) := by decide +kernel
theorem dX0_keepIfBetter_53 : decode cX0_keepIfBetter 53 = .ok (.iload_n 1, 1) := by decide +kernel
theorem dX0_keepIfBetter_54 : decode cX0_keepIfBetter 54 = .ok (.putfield 37, 3) := by decide +kernel
theorem dX0_keepIfBetter_57 : decode cX0_keepIfBetter 57 = .ok (.iconst 0, 1) := by decide +kernel
theorem dX0_keepIfBetter_58 : decode cX0_keepIfBetter 58 = .ok (.istore_n 2, 1) := by decide +kernel
theorem dX0_keepIfBetter_59 : decode cX0_keepIfBetter 59 = .ok (.iload_n 2, 1) := by decide +kernel
theorem dX0_keepIfBetter_60 : decode cX0_keepIfBetter 60 = .ok (.bipush 9, 2) := by decide +kernel
theorem dX0_keepIfBetter_62 : decode cX0_keepIfBetter 62 = .ok (.if_icmp .ge 21, 3) := by decide +kernel
theorem dX0_keepIfBetter_65 : decode cX0_keepIfBetter 65 = .ok (.aload_n 0, 1) := by decide +kernel
theorem dX0_keepIfBetter_66 : decode cX0_keepIfBetter 66 = .ok (.getfield 18, 3) := by decide +kernel
theorem dX0_keepIfBetter_69 : decode cX0_keepIfBetter 69 = .ok (.iload_n 2, 1) := by decide +kernel
theorem dX0_keepIfBetter_70 : decode cX0_keepIfBetter 70 = .ok (.aload_n 0, 1) := by decide +kernel
theorem dX0_keepIfBetter_71 : decode cX0_keepIfBetter 71 = .ok (.getfield 15, 3) := by decide +kernel
theorem dX0_keepIfBetter_74 : decode cX0_keepIfBetter 74 = .ok (.iload_n 2, 1) := by decide +kernel
theorem dX0_keepIfBetter_75 : decode cX0_keepIfBetter 75 = .ok (.iaload, 1) := by decide +kernel
theorem dX0_keepIfBetter_76 : decode cX0_keepIfBetter 76 = .ok (.iastore, 1) := by decide +kernel
theorem dX0_keepIfBetter_77 : decode cX0_keepIfBetter 77 = .ok (.iinc 2 1, 3) := by decide +kernel
theorem dX0_keepIfBetter_80 : decode cX0_keepIfBetter 80 = .ok (.goto (-21), 3) := by decide +kernel
theorem dX0_keepIfBetter_83 : decode cX0_keepIfBetter 83 = .ok (.return_, 1) := by decide +kernel
theorem dX0_secondLeast_0 : decode cX0_secondLeast 0 = .ok (.iconst 0, 1) := by decide +kernel
theorem dX0_secondLeast_1 : decode cX0_secondLeast 1 = .ok (.istore_n 2, 1) := by decide +kernel
theorem dX0_secondLeast_2 : decode cX0_secondLeast 2 = .ok (.sipush 9999, 3) := by decide +kernel
theorem dX0_secondLeast_5 : decode cX0_secondLeast 5 = .ok (.istore_n 3, 1) := by decide +kernel
theorem dX0_secondLeast_6 : decode cX0_secondLeast 6 = .ok (.iconst 0, 1) := by decide +kernel
theorem dX0_secondLeast_7 : decode cX0_secondLeast 7 = .ok (.istore 4, 2) := by decide +kernel
theorem dX0_secondLeast_9 : decode cX0_secondLeast 9 = .ok (.iconst 0, 1) := by decide +kernel
theorem dX0_secondLeast_10 : decode cX0_secondLeast 10 = .ok (.istore 5, 2) := by decide +kernel
theorem dX0_secondLeast_12 : decode cX0_secondLeast 12 = .ok (.iload 5, 2) := by decide +kernel
theorem dX0_secondLeast_14 : decode cX0_secondLeast 14 = .ok (.aload_n 0, 1) := by decide +kernel
theorem dX0_secondLeast_15 : decode cX0_secondLeast 15 = .ok (.getfield 27, 3) := by decide +kernel
theorem dX0_secondLeast_18 : decode cX0_secondLeast 18 = .ok (.if_icmp .ge 63, 3) := by decide +kernel
theorem dX0_secondLeast_21 : decode cX0_secondLeast 21 = .ok (.iload 5, 2) := by decide +kernel
theorem dX0_secondLeast_23 : decode cX0_secondLeast 23 = .ok (.bipush 9, 2) := by decide +kernel
theorem dX0_secondLeast_25 : decode cX0_secondLeast 25 = .ok (.if_icmp .ge 56, 3) := by decide +kernel
theorem dX0_secondLeast_28 : decode cX0_secondLeast 28 = .ok (.aload_n 0, 1) := by decide +kernel
theorem dX0_secondLeast_29 : decode cX0_secondLeast 29 = .ok (.getfield 15, 3) := by decide +kernel
theorem dX0_secondLeast_32 : decode cX0_secondLeast 32 = .ok (.iload 5, 2) := by decide +kernel
theorem dX0_secondLeast_34 : decode cX0_secondLeast 34 = .ok (.iaload, 1) := by decide +kernel
theorem dX0_secondLeast_35 : decode cX0_secondLeast 35 = .ok (.iload_n 1, 1) := by decide +kernel
theorem dX0_secondLeast_36 : decode cX0_secondLeast 36 = .ok (.if_icmp .ne 39, 3) := by decide +kernel
theorem dX0_secondLeast_39 : decode cX0_secondLeast 39 = .ok (.iload_n 2, 1) := by decide +kernel
theorem dX0_secondLeast_40 : decode cX0_secondLeast 40 = .ok (.aload_n 0, 1) := by decide +kernel
theorem dX0_secondLeast_41 : decode cX0_secondLeast 41 = .ok (.getfield 9, 3) := by decide +kernel
theorem dX0_secondLeast_44 : decode cX0_secondLeast 44 = .ok (.iload 5, 2) := by decide +kernel
theorem dX0_secondLeast_46 : decode cX0_secondLeast 46 = .ok (.iaload, 1) := by decide +kernel
theorem dX0_secondLeast_47 : decode cX0_secondLeast 47 = .ok (.iadd, 1) := by decide +kernel
theorem dX0_secondLeast_48 : decode cX0_secondLeast 48 = .ok (.istore_n 2, 1) := by decide +kernel
theorem dX0_secondLeast_49 : decode cX0_secondLeast 49 = .ok (.iload_n 3, 1) := by decide +kernel
theorem dX0_secondLeast_50 : decode cX0_secondLeast 50 = .ok (.aload_n 0, 1) := by decide +kernel
theorem dX0_secondLeast_51 : decode cX0_secondLeast 51 = .ok (.getfield 9, 3) := by decide +kernel
theorem dX0_secondLeast_54 : decode cX0_secondLeast 54 = .ok (.iload 5, 2) := by decide +kernel
theorem dX0_secondLeast_56 : decode cX0_secondLeast 56 = .ok (.iaload, 1) := by decide +kernel
theorem dX0_secondLeast_57 : decode cX0_secondLeast 57 = .ok (.invokestatic 40, 3) := by decide +kernel
theorem dX0_secondLeast_60 : decode cX0_secondLeast 60 = .ok (.istore_n 3, 1) := by decide +kernel
theorem dX0_secondLeast_61 : decode cX0_secondLeast 61 = .ok (.iload 4, 2) := by decide +kernel
theorem dX0_secondLeast_63 : decode cX0_secondLeast 63 = .ok (.aload_n 0, 1) := by decide +kernel
theorem dX0_secondLeast_64 : decode cX0_secondLeast 64 = .ok (.getfield 9, 3) := by decide +kernel
theorem dX0_secondLeast_67 : decode cX0_secondLeast 67 = .ok (.iload 5, 2) := by decide +kernel
theorem dX0_secondLeast_69 : decode cX0_secondLeast 69 = .ok (.iaload, 1) := by decide +kernel
theorem dX0_secondLeast_70 : decode cX0_secondLeast 70 = .ok (.invokestatic 46, 3) := by decide +kernel
theorem dX0_secondLeast_73 : decode cX0_secondLeast 73 = .ok (.istore 4, 2) := by decide +kernel
theorem dX0_secondLeast_75 : decode cX0_secondLeast 75 = .ok (.iinc 5 1, 3) := by decide +kernel
theorem dX0_secondLeast_78 : decode cX0_secondLeast 78 = .ok (.goto (-66), 3) := by decide +kernel
theorem dX0_secondLeast_81 : decode cX0_secondLeast 81 = .ok (.iload_n 2, 1) := by decide +kernel
theorem dX0_secondLeast_82 : decode cX0_secondLeast 82 = .ok (.iload_n 3, 1) := by decide +kernel
theorem dX0_secondLeast_83 : decode cX0_secondLeast 83 = .ok (.isub, 1) := by decide +kernel
theorem dX0_secondLeast_84 : decode cX0_secondLeast 84 = .ok (.iload 4, 2) := by decide +kernel
theorem dX0_secondLeast_86 : decode cX0_secondLeast 86 = .ok (.isub, 1) := by decide +kernel
theorem dX0_secondLeast_87 : decode cX0_secondLeast 87 = .ok (.ireturn, 1) := by decide +kernel
theorem dX0_shareOut_0 : decode cX0_shareOut 0 = .ok (.aload_n 0, 1) := by decide +kernel
theorem dX0_shareOut_1 : decode cX0_shareOut 1 = .ok (.iconst 0, 1) := by decide +kernel
theorem dX0_shareOut_2 : decode cX0_shareOut 2 = .ok (.iload_n 1, 1) := by decide +kernel
theorem dX0_shareOut_3 : decode cX0_shareOut 3 = .ok (.aload_n 0, 1) := by decide +kernel
theorem dX0_shareOut_4 : decode cX0_shareOut 4 = .ok (.getfield 21, 3) := by decide +kernel
theorem dX0_shareOut_7 : decode cX0_shareOut 7 = .ok (.arraylength, 1) := by decide +kernel
theorem dX0_shareOut_8 : decode cX0_shareOut 8 = .ok (.invokestatic 40, 3) := by decide +kernel
theorem dX0_shareOut_11 : decode cX0_shareOut 11 = .ok (.invokestatic 46, 3) := by decide +kernel
theorem dX0_shareOut_14 : decode cX0_shareOut 14 = .ok (.putfield 34, 3) := by decide +kernel
theorem dX0_shareOut_17 : decode cX0_shareOut 17 = .ok (.aload_n 0, 1) := by decide +kernel
theorem dX0_shareOut_18 : decode cX0_shareOut 18 = .ok (.getfield 21, 3) := by decide +kernel
theorem dX0_shareOut_21 : decode cX0_shareOut 21 = .ok (.iconst 0, 1) := by decide +kernel
theorem dX0_shareOut_22 : decode cX0_shareOut 22 = .ok (.iload_n 2, 1) := by decide +kernel
theorem dX0_shareOut_23 : decode cX0_shareOut 23 = .ok (.iastore, 1) := by decide +kernel
theorem dX0_shareOut_24 : decode cX0_shareOut 24 = .ok (.aload_n 0, 1) := by decide +kernel
theorem dX0_shareOut_25 : decode cX0_shareOut 25 = .ok (.getfield 21, 3) := by decide +kernel
theorem dX0_shareOut_28 : decode cX0_shareOut 28 = .ok (.iconst 1, 1) := by decide +kernel
theorem dX0_shareOut_29 : decode cX0_shareOut 29 = .ok (.iload_n 3, 1) := by decide +kernel
theorem dX0_shareOut_30 : decode cX0_shareOut 30 = .ok (.iastore, 1) := by decide +kernel
theorem dX0_shareOut_31 : decode cX0_shareOut 31 = .ok (.aload_n 0, 1) := by decide +kernel
theorem dX0_shareOut_32 : decode cX0_shareOut 32 = .ok (.getfield 21, 3) := by decide +kernel
theorem dX0_shareOut_35 : decode cX0_shareOut 35 = .ok (.iconst 2, 1) := by decide +kernel
theorem dX0_shareOut_36 : decode cX0_shareOut 36 = .ok (.iload 4, 2) := by decide +kernel
theorem dX0_shareOut_38 : decode cX0_shareOut 38 = .ok (.iastore, 1) := by decide +kernel
theorem dX0_shareOut_39 : decode cX0_shareOut 39 = .ok (.aload_n 0, 1) := by decide +kernel
theorem dX0_shareOut_40 : decode cX0_shareOut 40 = .ok (.ldc 49, 2) := by decide +kernel
theorem dX0_shareOut_42 : decode cX0_shareOut 42 = .ok (.putfield 37, 3) := by decide +kernel
theorem dX0_shareOut_45 : decode cX0_shareOut 45 = .ok (.iconst 0, 1) := by decide +kernel
theorem dX0_shareOut_46 : decode cX0_shareOut 46 = .ok (.istore 5, 2) := by decide +kernel
theorem dX0_shareOut_48 : decode cX0_shareOut 48 = .ok (.iload 5, 2) := by decide +kernel
theorem dX0_shareOut_50 : decode cX0_shareOut 50 = .ok (.aload_n 0, 1) := by decide +kernel
theorem dX0_shareOut_51 : decode cX0_shareOut 51 = .ok (.getfield 24, 3) := by decide +kernel
theorem dX0_shareOut_54 : decode cX0_shareOut 54 = .ok (.arraylength, 1) := by decide +kernel
theorem dX0_shareOut_55 : decode cX0_shareOut 55 = .ok (.if_icmp .ge 17, 3) := by decide +kernel
theorem dX0_shareOut_58 : decode cX0_shareOut 58 = .ok (.aload_n 0, 1) := by decide +kernel
theorem dX0_shareOut_59 : decode cX0_shareOut 59 = .ok (.getfield 24, 3) := by decide +kernel
theorem dX0_shareOut_62 : decode cX0_shareOut 62 = .ok (.iload 5, 2) := by decide +kernel
theorem dX0_shareOut_64 : decode cX0_shareOut 64 = .ok (.iconst 0, 1) := by decide +kernel
theorem dX0_shareOut_65 : decode cX0_shareOut 65 = .ok (.iastore, 1) := by decide +kernel
theorem dX0_shareOut_66 : decode cX0_shareOut 66 = .ok (.iinc 5 1, 3) := by decide +kernel
theorem dX0_shareOut_69 : decode cX0_shareOut 69 = .ok (.goto (-21), 3) := by decide +kernel
theorem dX0_shareOut_72 : decode cX0_shareOut 72 = .ok (.aload_n 0, 1) := by decide +kernel
theorem dX0_shareOut_73 : decode cX0_shareOut 73 = .ok (.iconst 0, 1) := by decide +kernel
theorem dX0_shareOut_74 : decode cX0_shareOut 74 = .ok (.aload_n 0, 1) := by decide +kernel
theorem dX0_shareOut_75 : decode cX0_shareOut 75 = .ok (.getfield 27, 3) := by decide +kernel
theorem dX0_shareOut_78 : decode cX0_shareOut 78 = .ok (.iconst 3, 1) := by decide +kernel
theorem dX0_shareOut_79 : decode cX0_shareOut 79 = .ok (.aload_n 0, 1) := by decide +kernel
theorem dX0_shareOut_80 : decode cX0_shareOut 80 = .ok (.getfield 34, 3) := by decide +kernel
theorem dX0_shareOut_83 : decode cX0_shareOut 83 = .ok (.imul, 1) := by decide +kernel
theorem dX0_shareOut_84 : decode cX0_shareOut 84 = .ok (.isub, 1) := by decide +kernel
theorem dX0_shareOut_85 : decode cX0_shareOut 85 = .ok (.invokevirtual 50, 3) := by decide +kernel
theorem dX0_shareOut_88 : decode cX0_shareOut 88 = .ok (.aload_n 0, 1) := by decide +kernel
theorem dX0_shareOut_89 : decode cX0_shareOut 89 = .ok (.aload_n 0, 1) := by decide +kernel
theorem dX0_shareOut_90 : decode cX0_shareOut 90 = .ok (.getfield 27, 3) := by decide +kernel
theorem dX0_shareOut_93 : decode cX0_shareOut 93 = .ok (.putfield 31, 3) := by decide +kernel
theorem dX0_shareOut_96 : decode cX0_shareOut 96 = .ok (.aload_n 0, 1) := by decide +kernel
theorem dX0_shareOut_97 : decode cX0_shareOut 97 = .ok (.iconst 0, 1) := by decide +kernel
theorem dX0_shareOut_98 : decode cX0_shareOut 98 = .ok (.putfield 27, 3) := by decide +kernel
theorem dX0_shareOut_101 : decode cX0_shareOut 101 = .ok (.aload_n 0, 1) := by decide +kernel
theorem dX0_shareOut_102 : decode cX0_shareOut 102 = .ok (.getfield 37, 3) := by decide +kernel
theorem dX0_shareOut_105 : decode cX0_shareOut 105 = .ok (.ireturn, 1) := by decide +kernel
theorem dX0_tryFrom_0 : decode cX0_tryFrom 0 = .ok (.iload_n 1, 1) := by decide +kernel
theorem dX0_tryFrom_1 : decode cX0_tryFrom 1 = .ok (.aload_n 0, 1) := by decide +kernel
theorem dX0_tryFrom_2 : decode cX0_tryFrom 2 = .ok (.getfield 27, 3) := by decide +kernel
theorem dX0_tryFrom_5 : decode cX0_tryFrom 5 = .ok (.if_icmp .ge 9, 3) := by decide +kernel
theorem dX0_tryFrom_8 : decode cX0_tryFrom 8 = .ok (.iload_n 1, 1) := by decide +kernel
theorem dX0_tryFrom_9 : decode cX0_tryFrom 9 = .ok (.bipush 9, 2) := by decide +kernel
theorem dX0_tryFrom_11 : decode cX0_tryFrom 11 = .ok (.if_icmp .lt 8, 3) := by decide +kernel
theorem dX0_tryFrom_14 : decode cX0_tryFrom 14 = .ok (.aload_n 0, 1) := by decide +kernel
theorem dX0_tryFrom_15 : decode cX0_tryFrom 15 = .ok (.invokevirtual 54, 3) := by decide +kernel
theorem dX0_tryFrom_18 : decode cX0_tryFrom 18 = .ok (.return_, 1) := by decide +kernel
theorem dX0_tryFrom_19 : decode cX0_tryFrom 19 = .ok (.iconst 0, 1) := by decide +kernel
theorem dX0_tryFrom_20 : decode cX0_tryFrom 20 = .ok (.istore_n 3, 1) := by decide +kernel
theorem dX0_tryFrom_21 : decode cX0_tryFrom 21 = .ok (.iload_n 3, 1) := by decide +kernel
theorem dX0_tryFrom_22 : decode cX0_tryFrom 22 = .ok (.aload_n 0, 1) := by decide +kernel
theorem dX0_tryFrom_23 : decode cX0_tryFrom 23 = .ok (.getfield 34, 3) := by decide +kernel
theorem dX0_tryFrom_26 : decode cX0_tryFrom 26 = .ok (.if_icmp .ge 63, 3) := by decide +kernel
theorem dX0_tryFrom_29 : decode cX0_tryFrom 29 = .ok (.iload_n 3, 1) := by decide +kernel
theorem dX0_tryFrom_30 : decode cX0_tryFrom 30 = .ok (.aload_n 0, 1) := by decide +kernel
theorem dX0_tryFrom_31 : decode cX0_tryFrom 31 = .ok (.getfield 24, 3) := by decide +kernel
theorem dX0_tryFrom_34 : decode cX0_tryFrom 34 = .ok (.arraylength, 1) := by decide +kernel
theorem dX0_tryFrom_35 : decode cX0_tryFrom 35 = .ok (.if_icmp .ge 54, 3) := by decide +kernel
theorem dX0_tryFrom_38 : decode cX0_tryFrom 38 = .ok (.aload_n 0, 1) := by decide +kernel
theorem dX0_tryFrom_39 : decode cX0_tryFrom 39 = .ok (.getfield 24, 3) := by decide +kernel
theorem dX0_tryFrom_42 : decode cX0_tryFrom 42 = .ok (.iload_n 3, 1) := by decide +kernel
theorem dX0_tryFrom_43 : decode cX0_tryFrom 43 = .ok (.iaload, 1) := by decide +kernel
theorem dX0_tryFrom_44 : decode cX0_tryFrom 44 = .ok (.iconst 3, 1) := by decide +kernel
theorem dX0_tryFrom_45 : decode cX0_tryFrom 45 = .ok (.if_icmp .ge 38, 3) := by decide +kernel
theorem dX0_tryFrom_48 : decode cX0_tryFrom 48 = .ok (.aload_n 0, 1) := by decide +kernel
theorem dX0_tryFrom_49 : decode cX0_tryFrom 49 = .ok (.getfield 15, 3) := by decide +kernel
theorem dX0_tryFrom_52 : decode cX0_tryFrom 52 = .ok (.iload_n 1, 1) := by decide +kernel
theorem dX0_tryFrom_53 : decode cX0_tryFrom 53 = .ok (.iload_n 3, 1) := by decide +kernel
theorem dX0_tryFrom_54 : decode cX0_tryFrom 54 = .ok (.iastore, 1) := by decide +kernel
theorem dX0_tryFrom_55 : decode cX0_tryFrom 55 = .ok (.aload_n 0, 1) := by decide +kernel
theorem dX0_tryFrom_56 : decode cX0_tryFrom 56 = .ok (.getfield 24, 3) := by decide +kernel
theorem dX0_tryFrom_59 : decode cX0_tryFrom 59 = .ok (.iload_n 3, 1) := by decide +kernel
theorem dX0_tryFrom_60 : decode cX0_tryFrom 60 = .ok (.dup2, 1) := by decide +kernel
theorem dX0_tryFrom_61 : decode cX0_tryFrom 61 = .ok (.iaload, 1) := by decide +kernel
theorem dX0_tryFrom_62 : decode cX0_tryFrom 62 = .ok (.iconst 1, 1) := by decide +kernel
theorem dX0_tryFrom_63 : decode cX0_tryFrom 63 = .ok (.iadd, 1) := by decide +kernel
theorem dX0_tryFrom_64 : decode cX0_tryFrom 64 = .ok (.iastore, 1) := by decide +kernel
theorem dX0_tryFrom_65 : decode cX0_tryFrom 65 = .ok (.aload_n 0, 1) := by decide +kernel
theorem dX0_tryFrom_66 : decode cX0_tryFrom 66 = .ok (.iload_n 1, 1) := by decide +kernel
theorem dX0_tryFrom_67 : decode cX0_tryFrom 67 = .ok (.iconst 1, 1) := by decide +kernel
theorem dX0_tryFrom_68 : decode cX0_tryFrom 68 = .ok (.iadd, 1) := by decide +kernel
theorem dX0_tryFrom_69 : decode cX0_tryFrom 69 = .ok (.iload_n 2, 1) := by decide +kernel
theorem dX0_tryFrom_70 : decode cX0_tryFrom 70 = .ok (.invokevirtual 50, 3) := by decide +kernel
theorem dX0_tryFrom_73 : decode cX0_tryFrom 73 = .ok (.aload_n 0, 1) := by decide +kernel
theorem dX0_tryFrom_74 : decode cX0_tryFrom 74 = .ok (.getfield 24, 3) := by decide +kernel
theorem dX0_tryFrom_77 : decode cX0_tryFrom 77 = .ok (.iload_n 3, 1) := by decide +kernel
theorem dX0_tryFrom_78 : decode cX0_tryFrom 78 = .ok (.dup2, 1) := by decide +kernel
theorem dX0_tryFrom_79 : decode cX0_tryFrom 79 = .ok (.iaload, 1) := by decide +kernel
theorem dX0_tryFrom_80 : decode cX0_tryFrom 80 = .ok (.iconst 1, 1) := by decide +kernel
theorem dX0_tryFrom_81 : decode cX0_tryFrom 81 = .ok (.isub, 1) := by decide +kernel
theorem dX0_tryFrom_82 : decode cX0_tryFrom 82 = .ok (.iastore, 1) := by decide +kernel
theorem dX0_tryFrom_83 : decode cX0_tryFrom 83 = .ok (.iinc 3 1, 3) := by decide +kernel
theorem dX0_tryFrom_86 : decode cX0_tryFrom 86 = .ok (.goto (-65), 3) := by decide +kernel
theorem dX0_tryFrom_89 : decode cX0_tryFrom 89 = .ok (.iload_n 2, 1) := by decide +kernel
theorem dX0_tryFrom_90 : decode cX0_tryFrom 90 = .ok (.ifCond .le 20, 3) := by decide +kernel
theorem dX0_tryFrom_93 : decode cX0_tryFrom 93 = .ok (.aload_n 0, 1) := by decide +kernel
theorem dX0_tryFrom_94 : decode cX0_tryFrom 94 = .ok (.getfield 15, 3) := by decide +kernel
theorem dX0_tryFrom_97 : decode cX0_tryFrom 97 = .ok (.iload_n 1, 1) := by decide +kernel
theorem dX0_tryFrom_98 : decode cX0_tryFrom 98 = .ok (.iconst (-1), 1) := by decide +kernel
theorem dX0_tryFrom_99 : decode cX0_tryFrom 99 = .ok (.iastore, 1) := by decide +kernel
theorem dX0_tryFrom_100 : decode cX0_tryFrom 100 = .ok (.aload_n 0, 1) := by decide +kernel
theorem dX0_tryFrom_101 : decode cX0_tryFrom 101 = .ok (.iload_n 1, 1) := by decide +kernel
theorem dX0_tryFrom_102 : decode cX0_tryFrom 102 = .ok (.iconst 1, 1) := by decide +kernel
theorem dX0_tryFrom_103 : decode cX0_tryFrom 103 = .ok (.iadd, 1) := by decide +kernel
theorem dX0_tryFrom_104 : decode cX0_tryFrom 104 = .ok (.iload_n 2, 1) := by decide +kernel
theorem dX0_tryFrom_105 : decode cX0_tryFrom 105 = .ok (.iconst 1, 1) := by decide +kernel
theorem dX0_tryFrom_106 : decode cX0_tryFrom 106 = .ok (.isub, 1) := by decide +kernel
theorem dX0_tryFrom_107 : decode cX0_tryFrom 107 = .ok (.invokevirtual 50, 3) := by decide +kernel
theorem dX0_tryFrom_110 : decode cX0_tryFrom 110 = .ok (.return_, 1) := by decide +kernel
