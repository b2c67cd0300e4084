theorem dX2_add_0 : decode cX2_add 0 = .ok (.aload_n 0, 1) := by decide +kernel
theorem dX2_add_1 : decode cX2_add 1 = .ok (.getfield 27, 3) := by decide +kernel
theorem dX2_add_4 : decode cX2_add 4 = .ok (.bipush 60, 2) := by decide +kernel
theorem dX2_add_6 : decode cX2_add 6 = .ok (.if_icmp .lt 4, 3) := by decide +kernel
theorem dX2_add_9 : decode cX2_add 9 = .ok (.return_, 1) := by decide +kernel
theorem dX2_add_10 : decode cX2_add 10 = .ok (.aload_n 0, 1) := by decide +kernel
theorem dX2_add_11 : decode cX2_add 11 = .ok (.getfield 9, 3) := by decide +kernel
theorem dX2_add_14 : decode cX2_add 14 = .ok (.aload_n 0, 1) := by decide +kernel
theorem dX2_add_15 : decode cX2_add 15 = .ok (.getfield 27, 3) := by decide +kernel
theorem dX2_add_18 : decode cX2_add 18 = .ok (.iload_n 1, 1) := by decide +kernel
theorem dX2_add_19 : decode cX2_add 19 = .ok (.iastore, 1) := by decide +kernel
theorem dX2_add_20 : decode cX2_add 20 = .ok (.aload_n 0, 1) := by decide +kernel
theorem dX2_add_21 : decode cX2_add 21 = .ok (.getfield 15, 3) := by decide +kernel
theorem dX2_add_24 : decode cX2_add 24 = .ok (.aload_n 0, 1) := by decide +kernel
theorem dX2_add_25 : decode cX2_add 25 = .ok (.getfield 27, 3) := by decide +kernel
theorem dX2_add_28 : decode cX2_add 28 = .ok (.iload_n 2, 1) := by decide +kernel
theorem dX2_add_29 : decode cX2_add 29 = .ok (.iastore, 1) := by decide +kernel
theorem dX2_add_30 : decode cX2_add 30 = .ok (.aload_n 0, 1) := by decide +kernel
theorem dX2_add_31 : decode cX2_add 31 = .ok (.getfield 18, 3) := by decide +kernel
theorem dX2_add_34 : decode cX2_add 34 = .ok (.aload_n 0, 1) := by decide +kernel
theorem dX2_add_35 : decode cX2_add 35 = .ok (.getfield 27, 3) := by decide +kernel
theorem dX2_add_38 : decode cX2_add 38 = .ok (.iload_n 3, 1) := by decide +kernel
theorem dX2_add_39 : decode cX2_add 39 = .ok (.iastore, 1) := by decide +kernel
theorem dX2_add_40 : decode cX2_add 40 = .ok (.aload_n 0, 1) := by decide +kernel
theorem dX2_add_41 : decode cX2_add 41 = .ok (.getfield 21, 3) := by decide +kernel
theorem dX2_add_44 : decode cX2_add 44 = .ok (.aload_n 0, 1) := by decide +kernel
theorem dX2_add_45 : decode cX2_add 45 = .ok (.getfield 27, 3) := by decide +kernel
theorem dX2_add_48 : decode cX2_add 48 = .ok (.iload 4, 2) := by decide +kernel
theorem dX2_add_50 : decode cX2_add 50 = .ok (.iastore, 1) := by decide +kernel
theorem dX2_add_51 : decode cX2_add 51 = .ok (.aload_n 0, 1) := by decide +kernel
theorem dX2_add_52 : decode cX2_add 52 = .ok (.getfield 24, 3) := by decide +kernel
theorem dX2_add_55 : decode cX2_add 55 = .ok (.aload_n 0, 1) := by decide +kernel
theorem dX2_add_56 : decode cX2_add 56 = .ok (.getfield 27, 3) := by decide +kernel
theorem dX2_add_59 : decode cX2_add 59 = .ok (.iload 5, 2) := by decide +kernel
theorem dX2_add_61 : decode cX2_add 61 = .ok (.iastore, 1) := by decide +kernel
theorem dX2_add_62 : decode cX2_add 62 = .ok (.aload_n 0, 1) := by decide +kernel
theorem dX2_add_63 : decode cX2_add 63 = .ok (.dup, 1) := by decide +kernel
theorem dX2_add_64 : decode cX2_add 64 = .ok (.getfield 27, 3) := by decide +kernel
theorem dX2_add_67 : decode cX2_add 67 = .ok (.iconst 1, 1) := by decide +kernel
theorem dX2_add_68 : decode cX2_add 68 = .ok (.iadd, 1) := by decide +kernel
theorem dX2_add_69 : decode cX2_add 69 = .ok (.putfield 27, 3) := by decide +kernel
theorem dX2_add_72 : decode cX2_add 72 = .ok (.return_, 1) := by decide +kernel
theorem dX2_sumFor_0 : decode cX2_sumFor 0 = .ok (.iconst 0, 1) := by decide +kernel
theorem dX2_sumFor_1 : decode cX2_sumFor 1 = .ok (.istore 4, 2) := by decide +kernel
theorem dX2_sumFor_3 : decode cX2_sumFor 3 = .ok (.iload_n 1, 1) := by decide +kernel
theorem dX2_sumFor_4 : decode cX2_sumFor 4 = .ok (.ifCond .ne 6, 3) := by decide +kernel
theorem dX2_sumFor_7 : decode cX2_sumFor 7 = .ok (.iload 4, 2) := by decide +kernel
theorem dX2_sumFor_9 : decode cX2_sumFor 9 = .ok (.ireturn, 1) := by decide +kernel
theorem dX2_sumFor_10 : decode cX2_sumFor 10 = .ok (.iconst 0, 1) := by decide +kernel
theorem dX2_sumFor_11 : decode cX2_sumFor 11 = .ok (.istore 5, 2) := by decide +kernel
theorem dX2_sumFor_13 : decode cX2_sumFor 13 = .ok (.iload 5, 2) := by decide +kernel
theorem dX2_sumFor_15 : decode cX2_sumFor 15 = .ok (.aload_n 0, 1) := by decide +kernel
theorem dX2_sumFor_16 : decode cX2_sumFor 16 = .ok (.getfield 27, 3) := by decide +kernel
theorem dX2_sumFor_19 : decode cX2_sumFor 19 = .ok (.if_icmp .ge 70, 3) := by decide +kernel
theorem dX2_sumFor_22 : decode cX2_sumFor 22 = .ok (.aload_n 0, 1) := by decide +kernel
theorem dX2_sumFor_23 : decode cX2_sumFor 23 = .ok (.getfield 9, 3) := by decide +kernel
theorem dX2_sumFor_26 : decode cX2_sumFor 26 = .ok (.iload 5, 2) := by decide +kernel
theorem dX2_sumFor_28 : decode cX2_sumFor 28 = .ok (.iaload, 1) := by decide +kernel
theorem dX2_sumFor_29 : decode cX2_sumFor 29 = .ok (.iload_n 1, 1) := by decide +kernel
theorem dX2_sumFor_30 : decode cX2_sumFor 30 = .ok (.if_icmp .ne 53, 3) := by decide +kernel
theorem dX2_sumFor_33 : decode cX2_sumFor 33 = .ok (.aload_n 0, 1) := by decide +kernel
theorem dX2_sumFor_34 : decode cX2_sumFor 34 = .ok (.getfield 15, 3) := by decide +kernel
theorem dX2_sumFor_37 : decode cX2_sumFor 37 = .ok (.iload 5, 2) := by decide +kernel
theorem dX2_sumFor_39 : decode cX2_sumFor 39 = .ok (.iaload, 1) := by decide +kernel
theorem dX2_sumFor_40 : decode cX2_sumFor 40 = .ok (.iload_n 2, 1) := by decide +kernel
theorem dX2_sumFor_41 : decode cX2_sumFor 41 = .ok (.if_icmp .gt 42, 3) := by decide +kernel
theorem dX2_sumFor_44 : decode cX2_sumFor 44 = .ok (.iload_n 2, 1) := by decide +kernel
theorem dX2_sumFor_45 : decode cX2_sumFor 45 = .ok (.aload_n 0, 1) := by decide +kernel
theorem dX2_sumFor_46 : decode cX2_sumFor 46 = .ok (.getfield 18, 3) := by decide +kernel
theorem dX2_sumFor_49 : decode cX2_sumFor 49 = .ok (.iload 5, 2) := by decide +kernel
theorem dX2_sumFor_51 : decode cX2_sumFor 51 = .ok (.iaload, 1) := by decide +kernel
theorem dX2_sumFor_52 : decode cX2_sumFor 52 = .ok (.if_icmp .gt 31, 3) := by decide +kernel
theorem dX2_sumFor_55 : decode cX2_sumFor 55 = .ok (.iload_n 3, 1) := by decide +kernel
theorem dX2_sumFor_56 : decode cX2_sumFor 56 = .ok (.iconst (-1), 1) := by decide +kernel
theorem dX2_sumFor_57 : decode cX2_sumFor 57 = .ok (.if_icmp .eq 14, 3) := by decide +kernel
theorem dX2_sumFor_60 : decode cX2_sumFor 60 = .ok (.aload_n 0, 1) := by decide +kernel
theorem dX2_sumFor_61 : decode cX2_sumFor 61 = .ok (.getfield 24, 3) := by decide +kernel
theorem dX2_sumFor_64 : decode cX2_sumFor 64 = .ok (.iload 5, 2) := by decide +kernel
theorem dX2_sumFor_66 : decode cX2_sumFor 66 = .ok (.iaload, 1) := by decide +kernel
theorem dX2_sumFor_67 : decode cX2_sumFor 67 = .ok (.iload_n 3, 1) := by decide +kernel
theorem dX2_sumFor_68 : decode cX2_sumFor 68 = .ok (.if_icmp .gt 15, 3) := by decide +kernel
theorem dX2_sumFor_71 : decode cX2_sumFor 71 = .ok (.iload 4, 2) := by decide +kernel
theorem dX2_sumFor_73 : decode cX2_sumFor 73 = .ok (.aload_n 0, 1) := by decide +kernel
theorem dX2_sumFor_74 : decode cX2_sumFor 74 = .ok (.getfield 21, 3) := by decide +kernel
theorem dX2_sumFor_77 : decode cX2_sumFor 77 = .ok (.iload 5, 2) := by decide +kernel
theorem dX2_sumFor_79 : decode cX2_sumFor 79 = .ok (.iaload, 1) := by decide +kernel
theorem dX2_sumFor_80 : decode cX2_sumFor 80 = .ok (.iadd, 1) := by decide +kernel
theorem dX2_sumFor_81 : decode cX2_sumFor 81 = .ok (.istore 4, 2) := by decide +kernel
theorem dX2_sumFor_83 : decode cX2_sumFor 83 = .ok (.iinc 5 1, 3) := by decide +kernel
theorem dX2_sumFor_86 : decode cX2_sumFor 86 = .ok (.goto (-73), 3) := by decide +kernel
theorem dX2_sumFor_89 : decode cX2_sumFor 89 = .ok (.iload 4, 2) := by decide +kernel
theorem dX2_sumFor_91 : decode cX2_sumFor 91 = .ok (.ireturn, 1) := by decide +kernel
