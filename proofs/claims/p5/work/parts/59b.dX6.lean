theorem dX6_exchangeRule_0 : decode cX6_exchangeRule 0 = .ok (.aload_n 0, 1) := by decide +kernel
theorem dX6_exchangeRule_1 : decode cX6_exchangeRule 1 = .ok (.getfield 22, 3) := by decide +kernel
theorem dX6_exchangeRule_4 : decode cX6_exchangeRule 4 = .ok (.astore_n 2, 1) := by decide +kernel
theorem dX6_exchangeRule_5 : decode cX6_exchangeRule 5 = .ok (.aload_n 0, 1) := by decide +kernel
theorem dX6_exchangeRule_6 : decode cX6_exchangeRule 6 = .ok (.aload_n 1, 1) := by decide +kernel
theorem dX6_exchangeRule_7 : decode cX6_exchangeRule 7 = .ok (.putfield 22, 3) := by decide +kernel
theorem dX6_exchangeRule_10 : decode cX6_exchangeRule 10 = .ok (.aload_n 2, 1) := by decide +kernel
theorem dX6_exchangeRule_11 : decode cX6_exchangeRule 11 = .ok (.areturn, 1) := by decide +kernel
theorem dX6_goOn_0 : decode cX6_goOn 0 = .ok (.aload_n 0, 1) := by decide +kernel
theorem dX6_goOn_1 : decode cX6_goOn 1 = .ok (.getfield 32, 3) := by decide +kernel
theorem dX6_goOn_4 : decode cX6_goOn 4 = .ok (.aload_n 0, 1) := by decide +kernel
theorem dX6_goOn_5 : decode cX6_goOn 5 = .ok (.getfield 15, 3) := by decide +kernel
theorem dX6_goOn_8 : decode cX6_goOn 8 = .ok (.if_icmp .ge 30, 3) := by decide +kernel
theorem dX6_goOn_11 : decode cX6_goOn 11 = .ok (.aload_n 0, 1) := by decide +kernel
theorem dX6_goOn_12 : decode cX6_goOn 12 = .ok (.getfield 9, 3) := by decide +kernel
theorem dX6_goOn_15 : decode cX6_goOn 15 = .ok (.aload_n 0, 1) := by decide +kernel
theorem dX6_goOn_16 : decode cX6_goOn 16 = .ok (.getfield 32, 3) := by decide +kernel
theorem dX6_goOn_19 : decode cX6_goOn 19 = .ok (.iaload, 1) := by decide +kernel
theorem dX6_goOn_20 : decode cX6_goOn 20 = .ok (.bipush 32, 2) := by decide +kernel
theorem dX6_goOn_22 : decode cX6_goOn 22 = .ok (.if_icmp .ne 16, 3) := by decide +kernel
theorem dX6_goOn_25 : decode cX6_goOn 25 = .ok (.aload_n 0, 1) := by decide +kernel
theorem dX6_goOn_26 : decode cX6_goOn 26 = .ok (.dup, 1) := by decide +kernel
theorem dX6_goOn_27 : decode cX6_goOn 27 = .ok (.getfield 32, 3) := by decide +kernel
theorem dX6_goOn_30 : decode cX6_goOn 30 = .ok (.iconst 1, 1) := by decide +kernel
theorem dX6_goOn_31 : decode cX6_goOn 31 = .ok (.iadd, 1) := by decide +kernel
theorem dX6_goOn_32 : decode cX6_goOn 32 = .ok (.putfield 32, 3) := by decide +kernel
theorem dX6_goOn_35 : decode cX6_goOn 35 = .ok (.goto (-35), 3) := by decide +kernel
theorem dX6_goOn_38 : decode cX6_goOn 38 = .ok (.aload_n 0, 1) := by decide +kernel
theorem dX6_goOn_39 : decode cX6_goOn 39 = .ok (.aload_n 0, 1) := by decide +kernel
theorem dX6_goOn_40 : decode cX6_goOn 40 = .ok (.getfield 32, 3) := by decide +kernel
theorem dX6_goOn_43 : decode cX6_goOn 43 = .ok (.putfield 38, 3) := by decide +kernel
theorem dX6_goOn_46 : decode cX6_goOn 46 = .ok (.aload_n 0, 1) := by decide +kernel
theorem dX6_goOn_47 : decode cX6_goOn 47 = .ok (.getfield 32, 3) := by decide +kernel
theorem dX6_goOn_50 : decode cX6_goOn 50 = .ok (.aload_n 0, 1) := by decide +kernel
theorem dX6_goOn_51 : decode cX6_goOn 51 = .ok (.getfield 15, 3) := by decide +kernel
theorem dX6_goOn_54 : decode cX6_goOn 54 = .ok (.if_icmp .lt 11, 3) := by decide +kernel
theorem dX6_goOn_57 : decode cX6_goOn 57 = .ok (.aload_n 0, 1) := by decide +kernel
theorem dX6_goOn_58 : decode cX6_goOn 58 = .ok (.iconst 0, 1) := by decide +kernel
theorem dX6_goOn_59 : decode cX6_goOn 59 = .ok (.putfield 35, 3) := by decide +kernel
theorem dX6_goOn_62 : decode cX6_goOn 62 = .ok (.goto 89, 3) := by decide +kernel
theorem dX6_goOn_65 : decode cX6_goOn 65 = .ok (.aload_n 0, 1) := by decide +kernel
theorem dX6_goOn_66 : decode cX6_goOn 66 = .ok (.getfield 9, 3) := by decide +kernel
theorem dX6_goOn_69 : decode cX6_goOn 69 = .ok (.aload_n 0, 1) := by decide +kernel
theorem dX6_goOn_70 : decode cX6_goOn 70 = .ok (.getfield 32, 3) := by decide +kernel
theorem dX6_goOn_73 : decode cX6_goOn 73 = .ok (.iaload, 1) := by decide +kernel
theorem dX6_goOn_74 : decode cX6_goOn 74 = .ok (.invokestatic 77, 3) := by decide +kernel
theorem dX6_goOn_77 : decode cX6_goOn 77 = .ok (.ifCond .eq 10, 3) := by decide +kernel
theorem dX6_goOn_80 : decode cX6_goOn 80 = .ok (.aload_n 0, 1) := by decide +kernel
theorem dX6_goOn_81 : decode cX6_goOn 81 = .ok (.invokevirtual 80, 3) := by decide +kernel
theorem dX6_goOn_84 : decode cX6_goOn 84 = .ok (.goto 67, 3) := by decide +kernel
theorem dX6_goOn_87 : decode cX6_goOn 87 = .ok (.aload_n 0, 1) := by decide +kernel
theorem dX6_goOn_88 : decode cX6_goOn 88 = .ok (.getfield 9, 3) := by decide +kernel
theorem dX6_goOn_91 : decode cX6_goOn 91 = .ok (.aload_n 0, 1) := by decide +kernel
theorem dX6_goOn_92 : decode cX6_goOn 92 = .ok (.getfield 32, 3) := by decide +kernel
theorem dX6_goOn_95 : decode cX6_goOn 95 = .ok (.iaload, 1) := by decide +kernel
theorem dX6_goOn_96 : decode cX6_goOn 96 = .ok (.invokestatic 83, 3) := by decide +kernel
theorem dX6_goOn_99 : decode cX6_goOn 99 = .ok (.ifCond .eq 10, 3) := by decide +kernel
theorem dX6_goOn_102 : decode cX6_goOn 102 = .ok (.aload_n 0, 1) := by decide +kernel
theorem dX6_goOn_103 : decode cX6_goOn 103 = .ok (.invokevirtual 86, 3) := by decide +kernel
theorem dX6_goOn_106 : decode cX6_goOn 106 = .ok (.goto 45, 3) := by decide +kernel
theorem dX6_goOn_109 : decode cX6_goOn 109 = .ok (.aload_n 0, 1) := by decide +kernel
theorem dX6_goOn_110 : decode cX6_goOn 110 = .ok (.aload_n 0, 1) := by decide +kernel
theorem dX6_goOn_111 : decode cX6_goOn 111 = .ok (.getfield 9, 3) := by decide +kernel
theorem dX6_goOn_114 : decode cX6_goOn 114 = .ok (.aload_n 0, 1) := by decide +kernel
theorem dX6_goOn_115 : decode cX6_goOn 115 = .ok (.getfield 32, 3) := by decide +kernel
theorem dX6_goOn_118 : decode cX6_goOn 118 = .ok (.iaload, 1) := by decide +kernel
theorem dX6_goOn_119 : decode cX6_goOn 119 = .ok (.invokestatic 89, 3) := by decide +kernel
theorem dX6_goOn_122 : decode cX6_goOn 122 = .ok (.ifCond .eq 15, 3) := by decide +kernel
theorem dX6_goOn_125 : decode cX6_goOn 125 = .ok (.aload_n 0, 1) := by decide +kernel
theorem dX6_goOn_126 : decode cX6_goOn 126 = .ok (.getfield 9, 3) := by decide +kernel
theorem dX6_goOn_129 : decode cX6_goOn 129 = .ok (.aload_n 0, 1) := by decide +kernel
theorem dX6_goOn_130 : decode cX6_goOn 130 = .ok (.getfield 32, 3) := by decide +kernel
theorem dX6_goOn_133 : decode cX6_goOn 133 = .ok (.iaload, 1) := by decide +kernel
theorem dX6_goOn_134 : decode cX6_goOn 134 = .ok (.goto 4, 3) := by decide +kernel
theorem dX6_goOn_137 : decode cX6_goOn 137 = .ok (.iconst 1, 1) := by decide +kernel
theorem dX6_goOn_138 : decode cX6_goOn 138 = .ok (.putfield 35, 3) := by decide +kernel
theorem dX6_goOn_141 : decode cX6_goOn 141 = .ok (.aload_n 0, 1) := by decide +kernel
theorem dX6_goOn_142 : decode cX6_goOn 142 = .ok (.dup, 1) := by decide +kernel
theorem dX6_goOn_143 : decode cX6_goOn 143 = .ok (.getfield 32, 3) := by decide +kernel
theorem dX6_goOn_146 : decode cX6_goOn 146 = .ok (.iconst 1, 1) := by decide +kernel
theorem dX6_goOn_147 : decode cX6_goOn 147 = .ok (.iadd, 1) := by decide +kernel
theorem dX6_goOn_148 : decode cX6_goOn 148 = .ok (.putfield 32, 3) := by decide +kernel
theorem dX6_goOn_151 : decode cX6_goOn 151 = .ok (.return_, 1) := by decide +kernel
theorem dX6_init_0 : decode cX6_init 0 = .ok (.aload_n 0, 1) := by decide +kernel
theorem dX6_init_1 : decode cX6_init 1 = .ok (.invokespecial 3, 3) := by decide +kernel
theorem dX6_init_4 : decode cX6_init 4 = .ok (.aload_n 0, 1) := by decide +kernel
theorem dX6_init_5 : decode cX6_init 5 = .ok (.bipush 120, 2) := by decide +kernel
theorem dX6_init_7 : decode cX6_init 7 = .ok (.newarray .int, 2) := by decide +kernel
theorem dX6_init_9 : decode cX6_init 9 = .ok (.putfield 9, 3) := by decide +kernel
theorem dX6_init_12 : decode cX6_init 12 = .ok (.aload_n 0, 1) := by decide +kernel
theorem dX6_init_13 : decode cX6_init 13 = .ok (.iconst 0, 1) := by decide +kernel
theorem dX6_init_14 : decode cX6_init 14 = .ok (.putfield 15, 3) := by decide +kernel
theorem dX6_init_17 : decode cX6_init 17 = .ok (.aload_n 0, 1) := by decide +kernel
theorem dX6_init_18 : decode cX6_init 18 = .ok (.new 19, 3) := by decide +kernel
theorem dX6_init_21 : decode cX6_init 21 = .ok (.dup, 1) := by decide +kernel
theorem dX6_init_22 : decode cX6_init 22 = .ok (.invokespecial 21, 3) := by decide +kernel
theorem dX6_init_25 : decode cX6_init 25 = .ok (.putfield 22, 3) := by decide +kernel
theorem dX6_init_28 : decode cX6_init 28 = .ok (.aload_n 0, 1) := by decide +kernel
theorem dX6_init_29 : decode cX6_init 29 = .ok (.ldc 26, 2) := by decide +kernel
theorem dX6_init_31 : decode cX6_init 31 = .ok (.putfield 28, 3) := by decide +kernel
theorem dX6_init_34 : decode cX6_init 34 = .ok (.aload_n 0, 1) := by decide +kernel
theorem dX6_init_35 : decode cX6_init 35 = .ok (.iconst 0, 1) := by decide +kernel
theorem dX6_init_36 : decode cX6_init 36 = .ok (.putfield 32, 3) := by decide +kernel
theorem dX6_init_39 : decode cX6_init 39 = .ok (.aload_n 0, 1) := by decide +kernel
theorem dX6_init_40 : decode cX6_init 40 = .ok (.iconst 0, 1) := by decide +kernel
theorem dX6_init_41 : decode cX6_init 41 = .ok (.putfield 35, 3) := by decide +kernel
theorem dX6_init_44 : decode cX6_init 44 = .ok (.aload_n 0, 1) := by decide +kernel
theorem dX6_init_45 : decode cX6_init 45 = .ok (.iconst 0, 1) := by decide +kernel
theorem dX6_init_46 : decode cX6_init 46 = .ok (.putfield 38, 3) := by decide +kernel
theorem dX6_init_49 : decode cX6_init 49 = .ok (.aload_n 0, 1) := by decide +kernel
theorem dX6_init_50 : decode cX6_init 50 = .ok (.iconst 0, 1) := by decide +kernel
theorem dX6_init_51 : decode cX6_init 51 = .ok (.putfield 41, 3) := by decide +kernel
theorem dX6_init_54 : decode cX6_init 54 = .ok (.return_, 1) := by decide +kernel
theorem dX6_isOnTape_0 : decode cX6_isOnTape 0 = .ok (.iload_n 2, 1) := by decide +kernel
theorem dX6_isOnTape_1 : decode cX6_isOnTape 1 = .ok (.iload_n 1, 1) := by decide +kernel
theorem dX6_isOnTape_2 : decode cX6_isOnTape 2 = .ok (.isub, 1) := by decide +kernel
theorem dX6_isOnTape_3 : decode cX6_isOnTape 3 = .ok (.aload_n 0, 1) := by decide +kernel
theorem dX6_isOnTape_4 : decode cX6_isOnTape 4 = .ok (.getfield 32, 3) := by decide +kernel
theorem dX6_isOnTape_7 : decode cX6_isOnTape 7 = .ok (.aload_n 0, 1) := by decide +kernel
theorem dX6_isOnTape_8 : decode cX6_isOnTape 8 = .ok (.getfield 38, 3) := by decide +kernel
theorem dX6_isOnTape_11 : decode cX6_isOnTape 11 = .ok (.isub, 1) := by decide +kernel
theorem dX6_isOnTape_12 : decode cX6_isOnTape 12 = .ok (.if_icmp .ne 29, 3) := by decide +kernel
theorem dX6_isOnTape_15 : decode cX6_isOnTape 15 = .ok (.iload_n 1, 1) := by decide +kernel
theorem dX6_isOnTape_16 : decode cX6_isOnTape 16 = .ok (.ifCond .lt 25, 3) := by decide +kernel
theorem dX6_isOnTape_19 : decode cX6_isOnTape 19 = .ok (.iload_n 2, 1) := by decide +kernel
theorem dX6_isOnTape_20 : decode cX6_isOnTape 20 = .ok (.aload_n 0, 1) := by decide +kernel
theorem dX6_isOnTape_21 : decode cX6_isOnTape 21 = .ok (.getfield 28, 3) := by decide +kernel
theorem dX6_isOnTape_24 : decode cX6_isOnTape 24 = .ok (.invokevirtual 96, 3) := by decide +kernel
theorem dX6_isOnTape_27 : decode cX6_isOnTape 27 = .ok (.if_icmp .gt 14, 3) := by decide +kernel
theorem dX6_isOnTape_30 : decode cX6_isOnTape 30 = .ok (.aload_n 0, 1) := by decide +kernel
theorem dX6_isOnTape_31 : decode cX6_isOnTape 31 = .ok (.getfield 32, 3) := by decide +kernel
theorem dX6_isOnTape_34 : decode cX6_isOnTape 34 = .ok (.aload_n 0, 1) := by decide +kernel
theorem dX6_isOnTape_35 : decode cX6_isOnTape 35 = .ok (.getfield 15, 3) := by decide +kernel
theorem dX6_isOnTape_38 : decode cX6_isOnTape 38 = .ok (.if_icmp .le 5, 3) := by decide +kernel
theorem dX6_isOnTape_41 : decode cX6_isOnTape 41 = .ok (.iconst 0, 1) := by decide +kernel
theorem dX6_isOnTape_42 : decode cX6_isOnTape 42 = .ok (.ireturn, 1) := by decide +kernel
theorem dX6_isOnTape_43 : decode cX6_isOnTape 43 = .ok (.iload_n 1, 1) := by decide +kernel
theorem dX6_isOnTape_44 : decode cX6_isOnTape 44 = .ok (.istore_n 3, 1) := by decide +kernel
theorem dX6_isOnTape_45 : decode cX6_isOnTape 45 = .ok (.iload_n 3, 1) := by decide +kernel
theorem dX6_isOnTape_46 : decode cX6_isOnTape 46 = .ok (.iload_n 2, 1) := by decide +kernel
theorem dX6_isOnTape_47 : decode cX6_isOnTape 47 = .ok (.if_icmp .ge 35, 3) := by decide +kernel
theorem dX6_isOnTape_50 : decode cX6_isOnTape 50 = .ok (.aload_n 0, 1) := by decide +kernel
theorem dX6_isOnTape_51 : decode cX6_isOnTape 51 = .ok (.getfield 28, 3) := by decide +kernel
theorem dX6_isOnTape_54 : decode cX6_isOnTape 54 = .ok (.iload_n 3, 1) := by decide +kernel
theorem dX6_isOnTape_55 : decode cX6_isOnTape 55 = .ok (.invokevirtual 101, 3) := by decide +kernel
theorem dX6_isOnTape_58 : decode cX6_isOnTape 58 = .ok (.aload_n 0, 1) := by decide +kernel
theorem dX6_isOnTape_59 : decode cX6_isOnTape 59 = .ok (.getfield 9, 3) := by decide +kernel
theorem dX6_isOnTape_62 : decode cX6_isOnTape 62 = .ok (.aload_n 0, 1) := by decide +kernel
theorem dX6_isOnTape_63 : decode cX6_isOnTape 63 = .ok (.getfield 38, 3) := by decide +kernel
theorem dX6_isOnTape_66 : decode cX6_isOnTape 66 = .ok (.iload_n 3, 1) := by decide +kernel
theorem dX6_isOnTape_67 : decode cX6_isOnTape 67 = .ok (.iadd, 1) := by decide +kernel
theorem dX6_isOnTape_68 : decode cX6_isOnTape 68 = .ok (.iload_n 1, 1) := by decide +kernel
theorem dX6_isOnTape_69 : decode cX6_isOnTape 69 = .ok (.isub, 1) := by decide +kernel
theorem dX6_isOnTape_70 : decode cX6_isOnTape 70 = .ok (.iaload, 1) := by decide +kernel
theorem dX6_isOnTape_71 : decode cX6_isOnTape 71 = .ok (.if_icmp .eq 5, 3) := by decide +kernel
theorem dX6_isOnTape_74 : decode cX6_isOnTape 74 = .ok (.iconst 0, 1) := by decide +kernel
theorem dX6_isOnTape_75 : decode cX6_isOnTape 75 = .ok (.ireturn, 1) := by decide +kernel
theorem dX6_isOnTape_76 : decode cX6_isOnTape 76 = .ok (.iinc 3 1, 3) := by decide +kernel
theorem dX6_isOnTape_79 : decode cX6_isOnTape 79 = .ok (.goto (-34), 3) := by decide +kernel
theorem dX6_isOnTape_82 : decode cX6_isOnTape 82 = .ok (.iconst 1, 1) := by decide +kernel
theorem dX6_isOnTape_83 : decode cX6_isOnTape 83 = .ok (.ireturn, 1) := by decide +kernel
theorem dX6_placeAmongWords_0 : decode cX6_placeAmongWords 0 = .ok (.iconst 0, 1) := by decide +kernel
theorem dX6_placeAmongWords_1 : decode cX6_placeAmongWords 1 = .ok (.istore_n 1, 1) := by decide +kernel
theorem dX6_placeAmongWords_2 : decode cX6_placeAmongWords 2 = .ok (.iconst 0, 1) := by decide +kernel
theorem dX6_placeAmongWords_3 : decode cX6_placeAmongWords 3 = .ok (.istore_n 2, 1) := by decide +kernel
theorem dX6_placeAmongWords_4 : decode cX6_placeAmongWords 4 = .ok (.iconst 0, 1) := by decide +kernel
theorem dX6_placeAmongWords_5 : decode cX6_placeAmongWords 5 = .ok (.istore_n 3, 1) := by decide +kernel
theorem dX6_placeAmongWords_6 : decode cX6_placeAmongWords 6 = .ok (.iload_n 3, 1) := by decide +kernel
theorem dX6_placeAmongWords_7 : decode cX6_placeAmongWords 7 = .ok (.aload_n 0, 1) := by decide +kernel
theorem dX6_placeAmongWords_8 : decode cX6_placeAmongWords 8 = .ok (.getfield 28, 3) := by decide +kernel
theorem dX6_placeAmongWords_11 : decode cX6_placeAmongWords 11 = .ok (.invokevirtual 96, 3) := by decide +kernel
theorem dX6_placeAmongWords_14 : decode cX6_placeAmongWords 14 = .ok (.if_icmp .gt 51, 3) := by decide +kernel
theorem dX6_placeAmongWords_17 : decode cX6_placeAmongWords 17 = .ok (.iload_n 3, 1) := by decide +kernel
theorem dX6_placeAmongWords_18 : decode cX6_placeAmongWords 18 = .ok (.aload_n 0, 1) := by decide +kernel
theorem dX6_placeAmongWords_19 : decode cX6_placeAmongWords 19 = .ok (.getfield 28, 3) := by decide +kernel
theorem dX6_placeAmongWords_22 : decode cX6_placeAmongWords 22 = .ok (.invokevirtual 96, 3) := by decide +kernel
theorem dX6_placeAmongWords_25 : decode cX6_placeAmongWords 25 = .ok (.if_icmp .eq 16, 3) := by decide +kernel
theorem dX6_placeAmongWords_28 : decode cX6_placeAmongWords 28 = .ok (.aload_n 0, 1) := by decide +kernel
theorem dX6_placeAmongWords_29 : decode cX6_placeAmongWords 29 = .ok (.getfield 28, 3) := by decide +kernel
theorem dX6_placeAmongWords_32 : decode cX6_placeAmongWords 32 = .ok (.iload_n 3, 1) := by decide +kernel
theorem dX6_placeAmongWords_33 : decode cX6_placeAmongWords 33 = .ok (.invokevirtual 101, 3) := by decide +kernel
theorem dX6_placeAmongWords_36 : decode cX6_placeAmongWords 36 = .ok (.bipush 32, 2) := by decide +kernel
theorem dX6_placeAmongWords_38 : decode cX6_placeAmongWords 38 = .ok (.if_icmp .ne 21, 3) := by decide +kernel
theorem dX6_placeAmongWords_41 : decode cX6_placeAmongWords 41 = .ok (.aload_n 0, 1) := by decide +kernel
theorem dX6_placeAmongWords_42 : decode cX6_placeAmongWords 42 = .ok (.iload_n 2, 1) := by decide +kernel
theorem dX6_placeAmongWords_43 : decode cX6_placeAmongWords 43 = .ok (.iload_n 3, 1) := by decide +kernel
theorem dX6_placeAmongWords_44 : decode cX6_placeAmongWords 44 = .ok (.invokevirtual 105, 3) := by decide +kernel
theorem dX6_placeAmongWords_47 : decode cX6_placeAmongWords 47 = .ok (.ifCond .eq 5, 3) := by decide +kernel
theorem dX6_placeAmongWords_50 : decode cX6_placeAmongWords 50 = .ok (.iload_n 1, 1) := by decide +kernel
theorem dX6_placeAmongWords_51 : decode cX6_placeAmongWords 51 = .ok (.ireturn, 1) := by decide +kernel
theorem dX6_placeAmongWords_52 : decode cX6_placeAmongWords 52 = .ok (.iinc 1 1, 3) := by decide +kernel
theorem dX6_placeAmongWords_55 : decode cX6_placeAmongWords 55 = .ok (.iload_n 3, 1) := by decide +kernel
theorem dX6_placeAmongWords_56 : decode cX6_placeAmongWords 56 = .ok (.iconst 1, 1) := by decide +kernel
theorem dX6_placeAmongWords_57 : decode cX6_placeAmongWords 57 = .ok (.iadd, 1) := by decide +kernel
theorem dX6_placeAmongWords_58 : decode cX6_placeAmongWords 58 = .ok (.istore_n 2, 1) := by decide +kernel
theorem dX6_placeAmongWords_59 : decode cX6_placeAmongWords 59 = .ok (.iinc 3 1, 3) := by decide +kernel
theorem dX6_placeAmongWords_62 : decode cX6_placeAmongWords 62 = .ok (.goto (-56), 3) := by decide +kernel
theorem dX6_placeAmongWords_65 : decode cX6_placeAmongWords 65 = .ok (.iconst (-1), 1) := by decide +kernel
theorem dX6_placeAmongWords_66 : decode cX6_placeAmongWords 66 = .ok (.ireturn, 1) := by decide +kernel
theorem dX6_readAsRule_0 : decode cX6_readAsRule 0 = .ok (.aload_n 0, 1) := by decide +kernel
theorem dX6_readAsRule_1 : decode cX6_readAsRule 1 = .ok (.aload_n 1, 1) := by decide +kernel
theorem dX6_readAsRule_2 : decode cX6_readAsRule 2 = .ok (.putfield 28, 3) := by decide +kernel
theorem dX6_readAsRule_5 : decode cX6_readAsRule 5 = .ok (.aload_n 0, 1) := by decide +kernel
theorem dX6_readAsRule_6 : decode cX6_readAsRule 6 = .ok (.getfield 22, 3) := by decide +kernel
theorem dX6_readAsRule_9 : decode cX6_readAsRule 9 = .ok (.iconst 0, 1) := by decide +kernel
theorem dX6_readAsRule_10 : decode cX6_readAsRule 10 = .ok (.putfield 44, 3) := by decide +kernel
theorem dX6_readAsRule_13 : decode cX6_readAsRule 13 = .ok (.aload_n 0, 1) := by decide +kernel
theorem dX6_readAsRule_14 : decode cX6_readAsRule 14 = .ok (.iconst 0, 1) := by decide +kernel
theorem dX6_readAsRule_15 : decode cX6_readAsRule 15 = .ok (.putfield 32, 3) := by decide +kernel
theorem dX6_readAsRule_18 : decode cX6_readAsRule 18 = .ok (.aload_n 0, 1) := by decide +kernel
theorem dX6_readAsRule_19 : decode cX6_readAsRule 19 = .ok (.invokevirtual 45, 3) := by decide +kernel
theorem dX6_readAsRule_22 : decode cX6_readAsRule 22 = .ok (.aload_n 0, 1) := by decide +kernel
theorem dX6_readAsRule_23 : decode cX6_readAsRule 23 = .ok (.iconst 0, 1) := by decide +kernel
theorem dX6_readAsRule_24 : decode cX6_readAsRule 24 = .ok (.invokevirtual 48, 3) := by decide +kernel
theorem dX6_readAsRule_27 : decode cX6_readAsRule 27 = .ok (.istore_n 2, 1) := by decide +kernel
theorem dX6_readAsRule_28 : decode cX6_readAsRule 28 = .ok (.iload_n 2, 1) := by decide +kernel
theorem dX6_readAsRule_29 : decode cX6_readAsRule 29 = .ok (.ifCond .eq 14, 3) := by decide +kernel
theorem dX6_readAsRule_32 : decode cX6_readAsRule 32 = .ok (.aload_n 0, 1) := by decide +kernel
theorem dX6_readAsRule_33 : decode cX6_readAsRule 33 = .ok (.getfield 35, 3) := by decide +kernel
theorem dX6_readAsRule_36 : decode cX6_readAsRule 36 = .ok (.ifCond .ne 7, 3) := by decide +kernel
theorem dX6_readAsRule_39 : decode cX6_readAsRule 39 = .ok (.iconst (-1), 1) := by decide +kernel
theorem dX6_readAsRule_40 : decode cX6_readAsRule 40 = .ok (.goto 7, 3) := by decide +kernel
theorem dX6_readAsRule_43 : decode cX6_readAsRule 43 = .ok (.aload_n 0, 1) := by decide +kernel
theorem dX6_readAsRule_44 : decode cX6_readAsRule 44 = .ok (.getfield 38, 3) := by decide +kernel
theorem dX6_readAsRule_47 : decode cX6_readAsRule 47 = .ok (.ireturn, 1) := by decide +kernel
theorem dX6_readBoth_0 : decode cX6_readBoth 0 = .ok (.aload_n 0, 1) := by decide +kernel
theorem dX6_readBoth_1 : decode cX6_readBoth 1 = .ok (.iload_n 1, 1) := by decide +kernel
theorem dX6_readBoth_2 : decode cX6_readBoth 2 = .ok (.invokevirtual 59, 3) := by decide +kernel
theorem dX6_readBoth_5 : decode cX6_readBoth 5 = .ok (.istore_n 2, 1) := by decide +kernel
theorem dX6_readBoth_6 : decode cX6_readBoth 6 = .ok (.iconst 0, 1) := by decide +kernel
theorem dX6_readBoth_7 : decode cX6_readBoth 7 = .ok (.istore_n 3, 1) := by decide +kernel
theorem dX6_readBoth_8 : decode cX6_readBoth 8 = .ok (.iload_n 3, 1) := by decide +kernel
theorem dX6_readBoth_9 : decode cX6_readBoth 9 = .ok (.bipush 120, 2) := by decide +kernel
theorem dX6_readBoth_11 : decode cX6_readBoth 11 = .ok (.if_icmp .ge 40, 3) := by decide +kernel
theorem dX6_readBoth_14 : decode cX6_readBoth 14 = .ok (.iload_n 2, 1) := by decide +kernel
theorem dX6_readBoth_15 : decode cX6_readBoth 15 = .ok (.ifCond .eq 36, 3) := by decide +kernel
theorem dX6_readBoth_18 : decode cX6_readBoth 18 = .ok (.aload_n 0, 1) := by decide +kernel
theorem dX6_readBoth_19 : decode cX6_readBoth 19 = .ok (.getfield 35, 3) := by decide +kernel
theorem dX6_readBoth_22 : decode cX6_readBoth 22 = .ok (.iconst 5, 1) := by decide +kernel
theorem dX6_readBoth_23 : decode cX6_readBoth 23 = .ok (.if_icmp .ne 28, 3) := by decide +kernel
theorem dX6_readBoth_26 : decode cX6_readBoth 26 = .ok (.aload_n 0, 1) := by decide +kernel
theorem dX6_readBoth_27 : decode cX6_readBoth 27 = .ok (.invokevirtual 45, 3) := by decide +kernel
theorem dX6_readBoth_30 : decode cX6_readBoth 30 = .ok (.aload_n 0, 1) := by decide +kernel
theorem dX6_readBoth_31 : decode cX6_readBoth 31 = .ok (.iload_n 1, 1) := by decide +kernel
theorem dX6_readBoth_32 : decode cX6_readBoth 32 = .ok (.invokevirtual 59, 3) := by decide +kernel
theorem dX6_readBoth_35 : decode cX6_readBoth 35 = .ok (.istore_n 2, 1) := by decide +kernel
theorem dX6_readBoth_36 : decode cX6_readBoth 36 = .ok (.aload_n 0, 1) := by decide +kernel
theorem dX6_readBoth_37 : decode cX6_readBoth 37 = .ok (.getfield 22, 3) := by decide +kernel
theorem dX6_readBoth_40 : decode cX6_readBoth 40 = .ok (.iconst 5, 1) := by decide +kernel
theorem dX6_readBoth_41 : decode cX6_readBoth 41 = .ok (.iconst 0, 1) := by decide +kernel
theorem dX6_readBoth_42 : decode cX6_readBoth 42 = .ok (.invokevirtual 55, 3) := by decide +kernel
theorem dX6_readBoth_45 : decode cX6_readBoth 45 = .ok (.iinc 3 1, 3) := by decide +kernel
theorem dX6_readBoth_48 : decode cX6_readBoth 48 = .ok (.goto (-40), 3) := by decide +kernel
theorem dX6_readBoth_51 : decode cX6_readBoth 51 = .ok (.iload_n 2, 1) := by decide +kernel
theorem dX6_readBoth_52 : decode cX6_readBoth 52 = .ok (.ireturn, 1) := by decide +kernel
theorem dX6_readComparison_0 : decode cX6_readComparison 0 = .ok (.aload_n 0, 1) := by decide +kernel
theorem dX6_readComparison_1 : decode cX6_readComparison 1 = .ok (.iload_n 1, 1) := by decide +kernel
theorem dX6_readComparison_2 : decode cX6_readComparison 2 = .ok (.invokevirtual 65, 3) := by decide +kernel
theorem dX6_readComparison_5 : decode cX6_readComparison 5 = .ok (.istore_n 2, 1) := by decide +kernel
theorem dX6_readComparison_6 : decode cX6_readComparison 6 = .ok (.iload_n 2, 1) := by decide +kernel
theorem dX6_readComparison_7 : decode cX6_readComparison 7 = .ok (.ifCond .eq 54, 3) := by decide +kernel
theorem dX6_readComparison_10 : decode cX6_readComparison 10 = .ok (.aload_n 0, 1) := by decide +kernel
theorem dX6_readComparison_11 : decode cX6_readComparison 11 = .ok (.getfield 35, 3) := by decide +kernel
theorem dX6_readComparison_14 : decode cX6_readComparison 14 = .ok (.bipush 60, 2) := by decide +kernel
theorem dX6_readComparison_16 : decode cX6_readComparison 16 = .ok (.if_icmp .eq 21, 3) := by decide +kernel
theorem dX6_readComparison_19 : decode cX6_readComparison 19 = .ok (.aload_n 0, 1) := by decide +kernel
theorem dX6_readComparison_20 : decode cX6_readComparison 20 = .ok (.getfield 35, 3) := by decide +kernel
theorem dX6_readComparison_23 : decode cX6_readComparison 23 = .ok (.bipush 61, 2) := by decide +kernel
theorem dX6_readComparison_25 : decode cX6_readComparison 25 = .ok (.if_icmp .eq 12, 3) := by decide +kernel
theorem dX6_readComparison_28 : decode cX6_readComparison 28 = .ok (.aload_n 0, 1) := by decide +kernel
theorem dX6_readComparison_29 : decode cX6_readComparison 29 = .ok (.getfield 35, 3) := by decide +kernel
theorem dX6_readComparison_32 : decode cX6_readComparison 32 = .ok (.bipush 62, 2) := by decide +kernel
theorem dX6_readComparison_34 : decode cX6_readComparison 34 = .ok (.if_icmp .ne 27, 3) := by decide +kernel
theorem dX6_readComparison_37 : decode cX6_readComparison 37 = .ok (.aload_n 0, 1) := by decide +kernel
theorem dX6_readComparison_38 : decode cX6_readComparison 38 = .ok (.getfield 35, 3) := by decide +kernel
theorem dX6_readComparison_41 : decode cX6_readComparison 41 = .ok (.istore_n 3, 1) := by decide +kernel
theorem dX6_readComparison_42 : decode cX6_readComparison 42 = .ok (.aload_n 0, 1) := by decide +kernel
theorem dX6_readComparison_43 : decode cX6_readComparison 43 = .ok (.invokevirtual 45, 3) := by decide +kernel
theorem dX6_readComparison_46 : decode cX6_readComparison 46 = .ok (.aload_n 0, 1) := by decide +kernel
theorem dX6_readComparison_47 : decode cX6_readComparison 47 = .ok (.iload_n 1, 1) := by decide +kernel
theorem dX6_readComparison_48 : decode cX6_readComparison 48 = .ok (.invokevirtual 65, 3) := by decide +kernel
theorem dX6_readComparison_51 : decode cX6_readComparison 51 = .ok (.istore_n 2, 1) := by decide +kernel
theorem dX6_readComparison_52 : decode cX6_readComparison 52 = .ok (.aload_n 0, 1) := by decide +kernel
theorem dX6_readComparison_53 : decode cX6_readComparison 53 = .ok (.getfield 22, 3) := by decide +kernel
theorem dX6_readComparison_56 : decode cX6_readComparison 56 = .ok (.iload_n 3, 1) := by decide +kernel
theorem dX6_readComparison_57 : decode cX6_readComparison 57 = .ok (.iconst 0, 1) := by decide +kernel
theorem dX6_readComparison_58 : decode cX6_readComparison 58 = .ok (.invokevirtual 55, 3) := by decide +kernel
theorem dX6_readComparison_61 : decode cX6_readComparison 61 = .ok (.iload_n 2, 1) := by decide +kernel
theorem dX6_readComparison_62 : decode cX6_readComparison 62 = .ok (.ireturn, 1) := by decide +kernel
theorem dX6_readEither_0 : decode cX6_readEither 0 = .ok (.aload_n 0, 1) := by decide +kernel
theorem dX6_readEither_1 : decode cX6_readEither 1 = .ok (.iload_n 1, 1) := by decide +kernel
theorem dX6_readEither_2 : decode cX6_readEither 2 = .ok (.invokevirtual 52, 3) := by decide +kernel
theorem dX6_readEither_5 : decode cX6_readEither 5 = .ok (.istore_n 2, 1) := by decide +kernel
theorem dX6_readEither_6 : decode cX6_readEither 6 = .ok (.iconst 0, 1) := by decide +kernel
theorem dX6_readEither_7 : decode cX6_readEither 7 = .ok (.istore_n 3, 1) := by decide +kernel
theorem dX6_readEither_8 : decode cX6_readEither 8 = .ok (.iload_n 3, 1) := by decide +kernel
theorem dX6_readEither_9 : decode cX6_readEither 9 = .ok (.bipush 120, 2) := by decide +kernel
theorem dX6_readEither_11 : decode cX6_readEither 11 = .ok (.if_icmp .ge 40, 3) := by decide +kernel
theorem dX6_readEither_14 : decode cX6_readEither 14 = .ok (.iload_n 2, 1) := by decide +kernel
theorem dX6_readEither_15 : decode cX6_readEither 15 = .ok (.ifCond .eq 36, 3) := by decide +kernel
theorem dX6_readEither_18 : decode cX6_readEither 18 = .ok (.aload_n 0, 1) := by decide +kernel
theorem dX6_readEither_19 : decode cX6_readEither 19 = .ok (.getfield 35, 3) := by decide +kernel
theorem dX6_readEither_22 : decode cX6_readEither 22 = .ok (.iconst 4, 1) := by decide +kernel
theorem dX6_readEither_23 : decode cX6_readEither 23 = .ok (.if_icmp .ne 28, 3) := by decide +kernel
theorem dX6_readEither_26 : decode cX6_readEither 26 = .ok (.aload_n 0, 1) := by decide +kernel
theorem dX6_readEither_27 : decode cX6_readEither 27 = .ok (.invokevirtual 45, 3) := by decide +kernel
theorem dX6_readEither_30 : decode cX6_readEither 30 = .ok (.aload_n 0, 1) := by decide +kernel
theorem dX6_readEither_31 : decode cX6_readEither 31 = .ok (.iload_n 1, 1) := by decide +kernel
theorem dX6_readEither_32 : decode cX6_readEither 32 = .ok (.invokevirtual 52, 3) := by decide +kernel
theorem dX6_readEither_35 : decode cX6_readEither 35 = .ok (.istore_n 2, 1) := by decide +kernel
theorem dX6_readEither_36 : decode cX6_readEither 36 = .ok (.aload_n 0, 1) := by decide +kernel
theorem dX6_readEither_37 : decode cX6_readEither 37 = .ok (.getfield 22, 3) := by decide +kernel
theorem dX6_readEither_40 : decode cX6_readEither 40 = .ok (.iconst 4, 1) := by decide +kernel
theorem dX6_readEither_41 : decode cX6_readEither 41 = .ok (.iconst 0, 1) := by decide +kernel
theorem dX6_readEither_42 : decode cX6_readEither 42 = .ok (.invokevirtual 55, 3) := by decide +kernel
theorem dX6_readEither_45 : decode cX6_readEither 45 = .ok (.iinc 3 1, 3) := by decide +kernel
theorem dX6_readEither_48 : decode cX6_readEither 48 = .ok (.goto (-40), 3) := by decide +kernel
theorem dX6_readEither_51 : decode cX6_readEither 51 = .ok (.iload_n 2, 1) := by decide +kernel
theorem dX6_readEither_52 : decode cX6_readEither 52 = .ok (.ireturn, 1) := by decide +kernel
theorem dX6_readInBrackets_0 : decode cX6_readInBrackets 0 = .ok (.aload_n 0, 1) := by decide +kernel
theorem dX6_readInBrackets_1 : decode cX6_readInBrackets 1 = .ok (.iload_n 1, 1) := by decide +kernel
theorem dX6_readInBrackets_2 : decode cX6_readInBrackets 2 = .ok (.invokevirtual 48, 3) := by decide +kernel
theorem dX6_readInBrackets_5 : decode cX6_readInBrackets 5 = .ok (.ifCond .eq 12, 3) := by decide +kernel
theorem dX6_readInBrackets_8 : decode cX6_readInBrackets 8 = .ok (.aload_n 0, 1) := by decide +kernel
theorem dX6_readInBrackets_9 : decode cX6_readInBrackets 9 = .ok (.getfield 35, 3) := by decide +kernel
theorem dX6_readInBrackets_12 : decode cX6_readInBrackets 12 = .ok (.bipush 41, 2) := by decide +kernel
theorem dX6_readInBrackets_14 : decode cX6_readInBrackets 14 = .ok (.if_icmp .eq 5, 3) := by decide +kernel
theorem dX6_readInBrackets_17 : decode cX6_readInBrackets 17 = .ok (.iconst 0, 1) := by decide +kernel
theorem dX6_readInBrackets_18 : decode cX6_readInBrackets 18 = .ok (.ireturn, 1) := by decide +kernel
theorem dX6_readInBrackets_19 : decode cX6_readInBrackets 19 = .ok (.aload_n 0, 1) := by decide +kernel
theorem dX6_readInBrackets_20 : decode cX6_readInBrackets 20 = .ok (.invokevirtual 45, 3) := by decide +kernel
theorem dX6_readInBrackets_23 : decode cX6_readInBrackets 23 = .ok (.iconst 1, 1) := by decide +kernel
theorem dX6_readInBrackets_24 : decode cX6_readInBrackets 24 = .ok (.ireturn, 1) := by decide +kernel
theorem dX6_readNegation_0 : decode cX6_readNegation 0 = .ok (.aload_n 0, 1) := by decide +kernel
theorem dX6_readNegation_1 : decode cX6_readNegation 1 = .ok (.getfield 35, 3) := by decide +kernel
theorem dX6_readNegation_4 : decode cX6_readNegation 4 = .ok (.bipush 6, 2) := by decide +kernel
theorem dX6_readNegation_6 : decode cX6_readNegation 6 = .ok (.if_icmp .eq 9, 3) := by decide +kernel
theorem dX6_readNegation_9 : decode cX6_readNegation 9 = .ok (.aload_n 0, 1) := by decide +kernel
theorem dX6_readNegation_10 : decode cX6_readNegation 10 = .ok (.iload_n 1, 1) := by decide +kernel
theorem dX6_readNegation_11 : decode cX6_readNegation 11 = .ok (.invokevirtual 62, 3) := by decide +kernel
theorem dX6_readNegation_14 : decode cX6_readNegation 14 = .ok (.ireturn, 1) := by decide +kernel
theorem dX6_readNegation_15 : decode cX6_readNegation 15 = .ok (.iload_n 1, 1) := by decide +kernel
theorem dX6_readNegation_16 : decode cX6_readNegation 16 = .ok (.bipush 15, 2) := by decide +kernel
theorem dX6_readNegation_18 : decode cX6_readNegation 18 = .ok (.if_icmp .lt 5, 3) := by decide +kernel
theorem dX6_readNegation_21 : decode cX6_readNegation 21 = .ok (.iconst 0, 1) := by decide +kernel
theorem dX6_readNegation_22 : decode cX6_readNegation 22 = .ok (.ireturn, 1) := by decide +kernel
theorem dX6_readNegation_23 : decode cX6_readNegation 23 = .ok (.aload_n 0, 1) := by decide +kernel
theorem dX6_readNegation_24 : decode cX6_readNegation 24 = .ok (.invokevirtual 45, 3) := by decide +kernel
theorem dX6_readNegation_27 : decode cX6_readNegation 27 = .ok (.aload_n 0, 1) := by decide +kernel
theorem dX6_readNegation_28 : decode cX6_readNegation 28 = .ok (.iload_n 1, 1) := by decide +kernel
theorem dX6_readNegation_29 : decode cX6_readNegation 29 = .ok (.iconst 1, 1) := by decide +kernel
theorem dX6_readNegation_30 : decode cX6_readNegation 30 = .ok (.iadd, 1) := by decide +kernel
theorem dX6_readNegation_31 : decode cX6_readNegation 31 = .ok (.invokevirtual 59, 3) := by decide +kernel
theorem dX6_readNegation_34 : decode cX6_readNegation 34 = .ok (.istore_n 2, 1) := by decide +kernel
theorem dX6_readNegation_35 : decode cX6_readNegation 35 = .ok (.aload_n 0, 1) := by decide +kernel
theorem dX6_readNegation_36 : decode cX6_readNegation 36 = .ok (.getfield 22, 3) := by decide +kernel
theorem dX6_readNegation_39 : decode cX6_readNegation 39 = .ok (.bipush 6, 2) := by decide +kernel
theorem dX6_readNegation_41 : decode cX6_readNegation 41 = .ok (.iconst 0, 1) := by decide +kernel
theorem dX6_readNegation_42 : decode cX6_readNegation 42 = .ok (.invokevirtual 55, 3) := by decide +kernel
theorem dX6_readNegation_45 : decode cX6_readNegation 45 = .ok (.iload_n 2, 1) := by decide +kernel
theorem dX6_readNegation_46 : decode cX6_readNegation 46 = .ok (.ireturn, 1) := by decide +kernel
theorem dX6_readOperand_0 : decode cX6_readOperand 0 = .ok (.aload_n 0, 1) := by decide +kernel
theorem dX6_readOperand_1 : decode cX6_readOperand 1 = .ok (.getfield 35, 3) := by decide +kernel
theorem dX6_readOperand_4 : decode cX6_readOperand 4 = .ok (.iconst 2, 1) := by decide +kernel
theorem dX6_readOperand_5 : decode cX6_readOperand 5 = .ok (.if_icmp .eq 11, 3) := by decide +kernel
theorem dX6_readOperand_8 : decode cX6_readOperand 8 = .ok (.aload_n 0, 1) := by decide +kernel
theorem dX6_readOperand_9 : decode cX6_readOperand 9 = .ok (.getfield 35, 3) := by decide +kernel
theorem dX6_readOperand_12 : decode cX6_readOperand 12 = .ok (.iconst 3, 1) := by decide +kernel
theorem dX6_readOperand_13 : decode cX6_readOperand 13 = .ok (.if_icmp .ne 24, 3) := by decide +kernel
theorem dX6_readOperand_16 : decode cX6_readOperand 16 = .ok (.aload_n 0, 1) := by decide +kernel
theorem dX6_readOperand_17 : decode cX6_readOperand 17 = .ok (.getfield 22, 3) := by decide +kernel
theorem dX6_readOperand_20 : decode cX6_readOperand 20 = .ok (.aload_n 0, 1) := by decide +kernel
theorem dX6_readOperand_21 : decode cX6_readOperand 21 = .ok (.getfield 35, 3) := by decide +kernel
theorem dX6_readOperand_24 : decode cX6_readOperand 24 = .ok (.aload_n 0, 1) := by decide +kernel
theorem dX6_readOperand_25 : decode cX6_readOperand 25 = .ok (.getfield 41, 3) := by decide +kernel
theorem dX6_readOperand_28 : decode cX6_readOperand 28 = .ok (.invokevirtual 55, 3) := by decide +kernel
theorem dX6_readOperand_31 : decode cX6_readOperand 31 = .ok (.aload_n 0, 1) := by decide +kernel
theorem dX6_readOperand_32 : decode cX6_readOperand 32 = .ok (.invokevirtual 45, 3) := by decide +kernel
theorem dX6_readOperand_35 : decode cX6_readOperand 35 = .ok (.iconst 1, 1) := by decide +kernel
theorem dX6_readOperand_36 : decode cX6_readOperand 36 = .ok (.ireturn, 1) := by decide +kernel
theorem dX6_readOperand_37 : decode cX6_readOperand 37 = .ok (.aload_n 0, 1) := by decide +kernel
theorem dX6_readOperand_38 : decode cX6_readOperand 38 = .ok (.getfield 35, 3) := by decide +kernel
theorem dX6_readOperand_41 : decode cX6_readOperand 41 = .ok (.bipush 40, 2) := by decide +kernel
theorem dX6_readOperand_43 : decode cX6_readOperand 43 = .ok (.if_icmp .eq 21, 3) := by decide +kernel
theorem dX6_readOperand_46 : decode cX6_readOperand 46 = .ok (.aload_n 0, 1) := by decide +kernel
theorem dX6_readOperand_47 : decode cX6_readOperand 47 = .ok (.getfield 35, 3) := by decide +kernel
theorem dX6_readOperand_50 : decode cX6_readOperand 50 = .ok (.bipush 7, 2) := by decide +kernel
theorem dX6_readOperand_52 : decode cX6_readOperand 52 = .ok (.if_icmp .eq 12, 3) := by decide +kernel
theorem dX6_readOperand_55 : decode cX6_readOperand 55 = .ok (.aload_n 0, 1) := by decide +kernel
theorem dX6_readOperand_56 : decode cX6_readOperand 56 = .ok (.getfield 35, 3) := by decide +kernel
theorem dX6_readOperand_59 : decode cX6_readOperand 59 = .ok (.bipush 45, 2) := by decide +kernel
theorem dX6_readOperand_61 : decode cX6_readOperand 61 = .ok (.if_icmp .ne 9, 3) := by decide +kernel
theorem dX6_readOperand_64 : decode cX6_readOperand 64 = .ok (.iload_n 1, 1) := by decide +kernel
theorem dX6_readOperand_65 : decode cX6_readOperand 65 = .ok (.bipush 15, 2) := by decide +kernel
theorem dX6_readOperand_67 : decode cX6_readOperand 67 = .ok (.if_icmp .lt 5, 3) := by decide +kernel
theorem dX6_readOperand_70 : decode cX6_readOperand 70 = .ok (.iconst 0, 1) := by decide +kernel
theorem dX6_readOperand_71 : decode cX6_readOperand 71 = .ok (.ireturn, 1) := by decide +kernel
theorem dX6_readOperand_72 : decode cX6_readOperand 72 = .ok (.aload_n 0, 1) := by decide +kernel
theorem dX6_readOperand_73 : decode cX6_readOperand 73 = .ok (.getfield 35, 3) := by decide +kernel
theorem dX6_readOperand_76 : decode cX6_readOperand 76 = .ok (.istore_n 2, 1) := by decide +kernel
theorem dX6_readOperand_77 : decode cX6_readOperand 77 = .ok (.aload_n 0, 1) := by decide +kernel
theorem dX6_readOperand_78 : decode cX6_readOperand 78 = .ok (.invokevirtual 45, 3) := by decide +kernel
theorem dX6_readOperand_81 : decode cX6_readOperand 81 = .ok (.iload_n 2, 1) := by decide +kernel
theorem dX6_readOperand_82 : decode cX6_readOperand 82 = .ok (.bipush 40, 2) := by decide +kernel
theorem dX6_readOperand_84 : decode cX6_readOperand 84 = .ok (.if_icmp .ne 11, 3) := by decide +kernel
theorem dX6_readOperand_87 : decode cX6_readOperand 87 = .ok (.aload_n 0, 1) := by decide +kernel
theorem dX6_readOperand_88 : decode cX6_readOperand 88 = .ok (.iload_n 1, 1) := by decide +kernel
theorem dX6_readOperand_89 : decode cX6_readOperand 89 = .ok (.iconst 1, 1) := by decide +kernel
theorem dX6_readOperand_90 : decode cX6_readOperand 90 = .ok (.iadd, 1) := by decide +kernel
theorem dX6_readOperand_91 : decode cX6_readOperand 91 = .ok (.invokevirtual 74, 3) := by decide +kernel
theorem dX6_readOperand_94 : decode cX6_readOperand 94 = .ok (.ireturn, 1) := by decide +kernel
theorem dX6_readOperand_95 : decode cX6_readOperand 95 = .ok (.aload_n 0, 1) := by decide +kernel
theorem dX6_readOperand_96 : decode cX6_readOperand 96 = .ok (.iload_n 1, 1) := by decide +kernel
theorem dX6_readOperand_97 : decode cX6_readOperand 97 = .ok (.iconst 1, 1) := by decide +kernel
theorem dX6_readOperand_98 : decode cX6_readOperand 98 = .ok (.iadd, 1) := by decide +kernel
theorem dX6_readOperand_99 : decode cX6_readOperand 99 = .ok (.invokevirtual 71, 3) := by decide +kernel
theorem dX6_readOperand_102 : decode cX6_readOperand 102 = .ok (.istore_n 3, 1) := by decide +kernel
theorem dX6_readOperand_103 : decode cX6_readOperand 103 = .ok (.aload_n 0, 1) := by decide +kernel
theorem dX6_readOperand_104 : decode cX6_readOperand 104 = .ok (.getfield 22, 3) := by decide +kernel
theorem dX6_readOperand_107 : decode cX6_readOperand 107 = .ok (.iload_n 2, 1) := by decide +kernel
theorem dX6_readOperand_108 : decode cX6_readOperand 108 = .ok (.bipush 45, 2) := by decide +kernel
theorem dX6_readOperand_110 : decode cX6_readOperand 110 = .ok (.if_icmp .ne 8, 3) := by decide +kernel
theorem dX6_readOperand_113 : decode cX6_readOperand 113 = .ok (.bipush 8, 2) := by decide +kernel
theorem dX6_readOperand_115 : decode cX6_readOperand 115 = .ok (.goto 5, 3) := by decide +kernel
theorem dX6_readOperand_118 : decode cX6_readOperand 118 = .ok (.bipush 7, 2) := by decide +kernel
theorem dX6_readOperand_120 : decode cX6_readOperand 120 = .ok (.iconst 0, 1) := by decide +kernel
theorem dX6_readOperand_121 : decode cX6_readOperand 121 = .ok (.invokevirtual 55, 3) := by decide +kernel
theorem dX6_readOperand_124 : decode cX6_readOperand 124 = .ok (.iload_n 3, 1) := by decide +kernel
theorem dX6_readOperand_125 : decode cX6_readOperand 125 = .ok (.ireturn, 1) := by decide +kernel
theorem dX6_readProduct_0 : decode cX6_readProduct 0 = .ok (.aload_n 0, 1) := by decide +kernel
theorem dX6_readProduct_1 : decode cX6_readProduct 1 = .ok (.iload_n 1, 1) := by decide +kernel
theorem dX6_readProduct_2 : decode cX6_readProduct 2 = .ok (.invokevirtual 71, 3) := by decide +kernel
theorem dX6_readProduct_5 : decode cX6_readProduct 5 = .ok (.istore_n 2, 1) := by decide +kernel
theorem dX6_readProduct_6 : decode cX6_readProduct 6 = .ok (.iconst 0, 1) := by decide +kernel
theorem dX6_readProduct_7 : decode cX6_readProduct 7 = .ok (.istore_n 3, 1) := by decide +kernel
theorem dX6_readProduct_8 : decode cX6_readProduct 8 = .ok (.iload_n 3, 1) := by decide +kernel
theorem dX6_readProduct_9 : decode cX6_readProduct 9 = .ok (.bipush 120, 2) := by decide +kernel
theorem dX6_readProduct_11 : decode cX6_readProduct 11 = .ok (.if_icmp .ge 57, 3) := by decide +kernel
theorem dX6_readProduct_14 : decode cX6_readProduct 14 = .ok (.iload_n 2, 1) := by decide +kernel
theorem dX6_readProduct_15 : decode cX6_readProduct 15 = .ok (.ifCond .eq 53, 3) := by decide +kernel
theorem dX6_readProduct_18 : decode cX6_readProduct 18 = .ok (.aload_n 0, 1) := by decide +kernel
theorem dX6_readProduct_19 : decode cX6_readProduct 19 = .ok (.getfield 35, 3) := by decide +kernel
theorem dX6_readProduct_22 : decode cX6_readProduct 22 = .ok (.bipush 42, 2) := by decide +kernel
theorem dX6_readProduct_24 : decode cX6_readProduct 24 = .ok (.if_icmp .eq 12, 3) := by decide +kernel
theorem dX6_readProduct_27 : decode cX6_readProduct 27 = .ok (.aload_n 0, 1) := by decide +kernel
theorem dX6_readProduct_28 : decode cX6_readProduct 28 = .ok (.getfield 35, 3) := by decide +kernel
theorem dX6_readProduct_31 : decode cX6_readProduct 31 = .ok (.bipush 47, 2) := by decide +kernel
theorem dX6_readProduct_33 : decode cX6_readProduct 33 = .ok (.if_icmp .ne 35, 3) := by decide +kernel
theorem dX6_readProduct_36 : decode cX6_readProduct 36 = .ok (.aload_n 0, 1) := by decide +kernel
theorem dX6_readProduct_37 : decode cX6_readProduct 37 = .ok (.getfield 35, 3) := by decide +kernel
theorem dX6_readProduct_40 : decode cX6_readProduct 40 = .ok (.istore 4, 2) := by decide +kernel
theorem dX6_readProduct_42 : decode cX6_readProduct 42 = .ok (.aload_n 0, 1) := by decide +kernel
theorem dX6_readProduct_43 : decode cX6_readProduct 43 = .ok (.invokevirtual 45, 3) := by decide +kernel
theorem dX6_readProduct_46 : decode cX6_readProduct 46 = .ok (.aload_n 0, 1) := by decide +kernel
theorem dX6_readProduct_47 : decode cX6_readProduct 47 = .ok (.iload_n 1, 1) := by decide +kernel
theorem dX6_readProduct_48 : decode cX6_readProduct 48 = .ok (.invokevirtual 71, 3) := by decide +kernel
theorem dX6_readProduct_51 : decode cX6_readProduct 51 = .ok (.istore_n 2, 1) := by decide +kernel
theorem dX6_readProduct_52 : decode cX6_readProduct 52 = .ok (.aload_n 0, 1) := by decide +kernel
theorem dX6_readProduct_53 : decode cX6_readProduct 53 = .ok (.getfield 22, 3) := by decide +kernel
theorem dX6_readProduct_56 : decode cX6_readProduct 56 = .ok (.iload 4, 2) := by decide +kernel
theorem dX6_readProduct_58 : decode cX6_readProduct 58 = .ok (.iconst 0, 1) := by decide +kernel
theorem dX6_readProduct_59 : decode cX6_readProduct 59 = .ok (.invokevirtual 55, 3) := by decide +kernel
theorem dX6_readProduct_62 : decode cX6_readProduct 62 = .ok (.iinc 3 1, 3) := by decide +kernel
theorem dX6_readProduct_65 : decode cX6_readProduct 65 = .ok (.goto (-57), 3) := by decide +kernel
theorem dX6_readProduct_68 : decode cX6_readProduct 68 = .ok (.iload_n 2, 1) := by decide +kernel
theorem dX6_readProduct_69 : decode cX6_readProduct 69 = .ok (.ireturn, 1) := by decide +kernel
theorem dX6_readSum_0 : decode cX6_readSum 0 = .ok (.aload_n 0, 1) := by decide +kernel
theorem dX6_readSum_1 : decode cX6_readSum 1 = .ok (.iload_n 1, 1) := by decide +kernel
theorem dX6_readSum_2 : decode cX6_readSum 2 = .ok (.invokevirtual 68, 3) := by decide +kernel
theorem dX6_readSum_5 : decode cX6_readSum 5 = .ok (.istore_n 2, 1) := by decide +kernel
theorem dX6_readSum_6 : decode cX6_readSum 6 = .ok (.iconst 0, 1) := by decide +kernel
theorem dX6_readSum_7 : decode cX6_readSum 7 = .ok (.istore_n 3, 1) := by decide +kernel
theorem dX6_readSum_8 : decode cX6_readSum 8 = .ok (.iload_n 3, 1) := by decide +kernel
theorem dX6_readSum_9 : decode cX6_readSum 9 = .ok (.bipush 120, 2) := by decide +kernel
theorem dX6_readSum_11 : decode cX6_readSum 11 = .ok (.if_icmp .ge 57, 3) := by decide +kernel
theorem dX6_readSum_14 : decode cX6_readSum 14 = .ok (.iload_n 2, 1) := by decide +kernel
theorem dX6_readSum_15 : decode cX6_readSum 15 = .ok (.ifCond .eq 53, 3) := by decide +kernel
theorem dX6_readSum_18 : decode cX6_readSum 18 = .ok (.aload_n 0, 1) := by decide +kernel
theorem dX6_readSum_19 : decode cX6_readSum 19 = .ok (.getfield 35, 3) := by decide +kernel
theorem dX6_readSum_22 : decode cX6_readSum 22 = .ok (.bipush 43, 2) := by decide +kernel
theorem dX6_readSum_24 : decode cX6_readSum 24 = .ok (.if_icmp .eq 12, 3) := by decide +kernel
theorem dX6_readSum_27 : decode cX6_readSum 27 = .ok (.aload_n 0, 1) := by decide +kernel
theorem dX6_readSum_28 : decode cX6_readSum 28 = .ok (.getfield 35, 3) := by decide +kernel
theorem dX6_readSum_31 : decode cX6_readSum 31 = .ok (.bipush 45, 2) := by decide +kernel
theorem dX6_readSum_33 : decode cX6_readSum 33 = .ok (.if_icmp .ne 35, 3) := by decide +kernel
theorem dX6_readSum_36 : decode cX6_readSum 36 = .ok (.aload_n 0, 1) := by decide +kernel
theorem dX6_readSum_37 : decode cX6_readSum 37 = .ok (.getfield 35, 3) := by decide +kernel
theorem dX6_readSum_40 : decode cX6_readSum 40 = .ok (.istore 4, 2) := by decide +kernel
theorem dX6_readSum_42 : decode cX6_readSum 42 = .ok (.aload_n 0, 1) := by decide +kernel
theorem dX6_readSum_43 : decode cX6_readSum 43 = .ok (.invokevirtual 45, 3) := by decide +kernel
theorem dX6_readSum_46 : decode cX6_readSum 46 = .ok (.aload_n 0, 1) := by decide +kernel
theorem dX6_readSum_47 : decode cX6_readSum 47 = .ok (.iload_n 1, 1) := by decide +kernel
theorem dX6_readSum_48 : decode cX6_readSum 48 = .ok (.invokevirtual 68, 3) := by decide +kernel
theorem dX6_readSum_51 : decode cX6_readSum 51 = .ok (.istore_n 2, 1) := by decide +kernel
theorem dX6_readSum_52 : decode cX6_readSum 52 = .ok (.aload_n 0, 1) := by decide +kernel
theorem dX6_readSum_53 : decode cX6_readSum 53 = .ok (.getfield 22, 3) := by decide +kernel
theorem dX6_readSum_56 : decode cX6_readSum 56 = .ok (.iload 4, 2) := by decide +kernel
theorem dX6_readSum_58 : decode cX6_readSum 58 = .ok (.iconst 0, 1) := by decide +kernel
theorem dX6_readSum_59 : decode cX6_readSum 59 = .ok (.invokevirtual 55, 3) := by decide +kernel
theorem dX6_readSum_62 : decode cX6_readSum 62 = .ok (.iinc 3 1, 3) := by decide +kernel
theorem dX6_readSum_65 : decode cX6_readSum 65 = .ok (.goto (-57), 3) := by decide +kernel
theorem dX6_readSum_68 : decode cX6_readSum 68 = .ok (.iload_n 2, 1) := by decide +kernel
theorem dX6_readSum_69 : decode cX6_readSum 69 = .ok (.ireturn, 1) := by decide +kernel
theorem dX6_takeLetters_0 : decode cX6_takeLetters 0 = .ok (.aload_n 0, 1) := by decide +kernel
theorem dX6_takeLetters_1 : decode cX6_takeLetters 1 = .ok (.getfield 32, 3) := by decide +kernel
theorem dX6_takeLetters_4 : decode cX6_takeLetters 4 = .ok (.aload_n 0, 1) := by decide +kernel
theorem dX6_takeLetters_5 : decode cX6_takeLetters 5 = .ok (.getfield 15, 3) := by decide +kernel
theorem dX6_takeLetters_8 : decode cX6_takeLetters 8 = .ok (.if_icmp .ge 31, 3) := by decide +kernel
theorem dX6_takeLetters_11 : decode cX6_takeLetters 11 = .ok (.aload_n 0, 1) := by decide +kernel
theorem dX6_takeLetters_12 : decode cX6_takeLetters 12 = .ok (.getfield 9, 3) := by decide +kernel
theorem dX6_takeLetters_15 : decode cX6_takeLetters 15 = .ok (.aload_n 0, 1) := by decide +kernel
theorem dX6_takeLetters_16 : decode cX6_takeLetters 16 = .ok (.getfield 32, 3) := by decide +kernel
theorem dX6_takeLetters_19 : decode cX6_takeLetters 19 = .ok (.iaload, 1) := by decide +kernel
theorem dX6_takeLetters_20 : decode cX6_takeLetters 20 = .ok (.invokestatic 77, 3) := by decide +kernel
theorem dX6_takeLetters_23 : decode cX6_takeLetters 23 = .ok (.ifCond .eq 16, 3) := by decide +kernel
theorem dX6_takeLetters_26 : decode cX6_takeLetters 26 = .ok (.aload_n 0, 1) := by decide +kernel
theorem dX6_takeLetters_27 : decode cX6_takeLetters 27 = .ok (.dup, 1) := by decide +kernel
theorem dX6_takeLetters_28 : decode cX6_takeLetters 28 = .ok (.getfield 32, 3) := by decide +kernel
theorem dX6_takeLetters_31 : decode cX6_takeLetters 31 = .ok (.iconst 1, 1) := by decide +kernel
theorem dX6_takeLetters_32 : decode cX6_takeLetters 32 = .ok (.iadd, 1) := by decide +kernel
theorem dX6_takeLetters_33 : decode cX6_takeLetters 33 = .ok (.putfield 32, 3) := by decide +kernel
theorem dX6_takeLetters_36 : decode cX6_takeLetters 36 = .ok (.goto (-36), 3) := by decide +kernel
theorem dX6_takeLetters_39 : decode cX6_takeLetters 39 = .ok (.aload_n 0, 1) := by decide +kernel
theorem dX6_takeLetters_40 : decode cX6_takeLetters 40 = .ok (.invokevirtual 92, 3) := by decide +kernel
theorem dX6_takeLetters_43 : decode cX6_takeLetters 43 = .ok (.istore_n 1, 1) := by decide +kernel
theorem dX6_takeLetters_44 : decode cX6_takeLetters 44 = .ok (.aload_n 0, 1) := by decide +kernel
theorem dX6_takeLetters_45 : decode cX6_takeLetters 45 = .ok (.iload_n 1, 1) := by decide +kernel
theorem dX6_takeLetters_46 : decode cX6_takeLetters 46 = .ok (.iconst 4, 1) := by decide +kernel
theorem dX6_takeLetters_47 : decode cX6_takeLetters 47 = .ok (.isub, 1) := by decide +kernel
theorem dX6_takeLetters_48 : decode cX6_takeLetters 48 = .ok (.putfield 41, 3) := by decide +kernel
theorem dX6_takeLetters_51 : decode cX6_takeLetters 51 = .ok (.aload_n 0, 1) := by decide +kernel
theorem dX6_takeLetters_52 : decode cX6_takeLetters 52 = .ok (.iload_n 1, 1) := by decide +kernel
theorem dX6_takeLetters_53 : decode cX6_takeLetters 53 = .ok (.iconst (-1), 1) := by decide +kernel
theorem dX6_takeLetters_54 : decode cX6_takeLetters 54 = .ok (.if_icmp .ne 7, 3) := by decide +kernel
theorem dX6_takeLetters_57 : decode cX6_takeLetters 57 = .ok (.iconst 1, 1) := by decide +kernel
theorem dX6_takeLetters_58 : decode cX6_takeLetters 58 = .ok (.goto 15, 3) := by decide +kernel
theorem dX6_takeLetters_61 : decode cX6_takeLetters 61 = .ok (.iload_n 1, 1) := by decide +kernel
theorem dX6_takeLetters_62 : decode cX6_takeLetters 62 = .ok (.iconst 4, 1) := by decide +kernel
theorem dX6_takeLetters_63 : decode cX6_takeLetters 63 = .ok (.if_icmp .ge 9, 3) := by decide +kernel
theorem dX6_takeLetters_66 : decode cX6_takeLetters 66 = .ok (.iconst 4, 1) := by decide +kernel
theorem dX6_takeLetters_67 : decode cX6_takeLetters 67 = .ok (.iload_n 1, 1) := by decide +kernel
theorem dX6_takeLetters_68 : decode cX6_takeLetters 68 = .ok (.iadd, 1) := by decide +kernel
theorem dX6_takeLetters_69 : decode cX6_takeLetters 69 = .ok (.goto 4, 3) := by decide +kernel
theorem dX6_takeLetters_72 : decode cX6_takeLetters 72 = .ok (.iconst 3, 1) := by decide +kernel
theorem dX6_takeLetters_73 : decode cX6_takeLetters 73 = .ok (.putfield 35, 3) := by decide +kernel
theorem dX6_takeLetters_76 : decode cX6_takeLetters 76 = .ok (.return_, 1) := by decide +kernel
