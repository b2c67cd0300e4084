theorem dX8_age_0 : decode cX8_age 0 = .ok (.iload_n 1, 1) := by decide +kernel
theorem dX8_age_1 : decode cX8_age 1 = .ok (.invokestatic 92, 3) := by decide +kernel
theorem dX8_age_4 : decode cX8_age 4 = .ok (.ifCond .eq 10, 3) := by decide +kernel
theorem dX8_age_7 : decode cX8_age 7 = .ok (.iload_n 2, 1) := by decide +kernel
theorem dX8_age_8 : decode cX8_age 8 = .ok (.invokestatic 84, 3) := by decide +kernel
theorem dX8_age_11 : decode cX8_age 11 = .ok (.ifCond .ne 5, 3) := by decide +kernel
theorem dX8_age_14 : decode cX8_age 14 = .ok (.iconst (-1), 1) := by decide +kernel
theorem dX8_age_15 : decode cX8_age 15 = .ok (.ireturn, 1) := by decide +kernel
theorem dX8_age_16 : decode cX8_age 16 = .ok (.aload_n 0, 1) := by decide +kernel
theorem dX8_age_17 : decode cX8_age 17 = .ok (.iload_n 1, 1) := by decide +kernel
theorem dX8_age_18 : decode cX8_age 18 = .ok (.invokevirtual 102, 3) := by decide +kernel
theorem dX8_age_21 : decode cX8_age 21 = .ok (.astore_n 3, 1) := by decide +kernel
theorem dX8_age_22 : decode cX8_age 22 = .ok (.aload_n 3, 1) := by decide +kernel
theorem dX8_age_23 : decode cX8_age 23 = .ok (.ifnonnull 11, 3) := by decide +kernel
theorem dX8_age_26 : decode cX8_age 26 = .ok (.aload_n 0, 1) := by decide +kernel
theorem dX8_age_27 : decode cX8_age 27 = .ok (.iload_n 1, 1) := by decide +kernel
theorem dX8_age_28 : decode cX8_age 28 = .ok (.invokevirtual 115, 3) := by decide +kernel
theorem dX8_age_31 : decode cX8_age 31 = .ok (.goto 8, 3) := by decide +kernel
theorem dX8_age_34 : decode cX8_age 34 = .ok (.aload_n 3, 1) := by decide +kernel
theorem dX8_age_35 : decode cX8_age 35 = .ok (.iload_n 2, 1) := by decide +kernel
theorem dX8_age_36 : decode cX8_age 36 = .ok (.invokevirtual 139, 3) := by decide +kernel
theorem dX8_age_39 : decode cX8_age 39 = .ok (.ireturn, 1) := by decide +kernel
theorem dX8_away_0 : decode cX8_away 0 = .ok (.iload_n 1, 1) := by decide +kernel
theorem dX8_away_1 : decode cX8_away 1 = .ok (.invokestatic 92, 3) := by decide +kernel
theorem dX8_away_4 : decode cX8_away 4 = .ok (.ifCond .ne 5, 3) := by decide +kernel
theorem dX8_away_7 : decode cX8_away 7 = .ok (.iconst (-1), 1) := by decide +kernel
theorem dX8_away_8 : decode cX8_away 8 = .ok (.ireturn, 1) := by decide +kernel
theorem dX8_away_9 : decode cX8_away 9 = .ok (.aload_n 0, 1) := by decide +kernel
theorem dX8_away_10 : decode cX8_away 10 = .ok (.iload_n 1, 1) := by decide +kernel
theorem dX8_away_11 : decode cX8_away 11 = .ok (.invokevirtual 102, 3) := by decide +kernel
theorem dX8_away_14 : decode cX8_away 14 = .ok (.astore_n 2, 1) := by decide +kernel
theorem dX8_away_15 : decode cX8_away 15 = .ok (.aload_n 2, 1) := by decide +kernel
theorem dX8_away_16 : decode cX8_away 16 = .ok (.ifnonnull 11, 3) := by decide +kernel
theorem dX8_away_19 : decode cX8_away 19 = .ok (.aload_n 0, 1) := by decide +kernel
theorem dX8_away_20 : decode cX8_away 20 = .ok (.iload_n 1, 1) := by decide +kernel
theorem dX8_away_21 : decode cX8_away 21 = .ok (.invokevirtual 115, 3) := by decide +kernel
theorem dX8_away_24 : decode cX8_away 24 = .ok (.goto 11, 3) := by decide +kernel
theorem dX8_away_27 : decode cX8_away 27 = .ok (.aload_n 2, 1) := by decide +kernel
theorem dX8_away_28 : decode cX8_away 28 = .ok (.aload_n 0, 1) := by decide +kernel
theorem dX8_away_29 : decode cX8_away 29 = .ok (.getfield 79, 3) := by decide +kernel
theorem dX8_away_32 : decode cX8_away 32 = .ok (.invokevirtual 292, 3) := by decide +kernel
theorem dX8_away_35 : decode cX8_away 35 = .ok (.ireturn, 1) := by decide +kernel
theorem dX8_back_0 : decode cX8_back 0 = .ok (.iload_n 1, 1) := by decide +kernel
theorem dX8_back_1 : decode cX8_back 1 = .ok (.invokestatic 202, 3) := by decide +kernel
theorem dX8_back_4 : decode cX8_back 4 = .ok (.ifCond .eq 31, 3) := by decide +kernel
theorem dX8_back_7 : decode cX8_back 7 = .ok (.iload_n 2, 1) := by decide +kernel
theorem dX8_back_8 : decode cX8_back 8 = .ok (.ldc 114, 2) := by decide +kernel
theorem dX8_back_10 : decode cX8_back 10 = .ok (.invokestatic 88, 3) := by decide +kernel
theorem dX8_back_13 : decode cX8_back 13 = .ok (.ifCond .eq 22, 3) := by decide +kernel
theorem dX8_back_16 : decode cX8_back 16 = .ok (.iload_n 3, 1) := by decide +kernel
theorem dX8_back_17 : decode cX8_back 17 = .ok (.ldc 114, 2) := by decide +kernel
theorem dX8_back_19 : decode cX8_back 19 = .ok (.invokestatic 88, 3) := by decide +kernel
theorem dX8_back_22 : decode cX8_back 22 = .ok (.ifCond .eq 13, 3) := by decide +kernel
theorem dX8_back_25 : decode cX8_back 25 = .ok (.iload 4, 2) := by decide +kernel
theorem dX8_back_27 : decode cX8_back 27 = .ok (.ldc 114, 2) := by decide +kernel
theorem dX8_back_29 : decode cX8_back 29 = .ok (.invokestatic 88, 3) := by decide +kernel
theorem dX8_back_32 : decode cX8_back 32 = .ok (.ifCond .ne 5, 3) := by decide +kernel
theorem dX8_back_35 : decode cX8_back 35 = .ok (.iconst (-1), 1) := by decide +kernel
theorem dX8_back_36 : decode cX8_back 36 = .ok (.ireturn, 1) := by decide +kernel
theorem dX8_back_37 : decode cX8_back 37 = .ok (.aload_n 0, 1) := by decide +kernel
theorem dX8_back_38 : decode cX8_back 38 = .ok (.getfield 27, 3) := by decide +kernel
theorem dX8_back_41 : decode cX8_back 41 = .ok (.iload_n 1, 1) := by decide +kernel
theorem dX8_back_42 : decode cX8_back 42 = .ok (.aaload, 1) := by decide +kernel
theorem dX8_back_43 : decode cX8_back 43 = .ok (.astore 5, 2) := by decide +kernel
theorem dX8_back_45 : decode cX8_back 45 = .ok (.aload 5, 2) := by decide +kernel
theorem dX8_back_47 : decode cX8_back 47 = .ok (.getfield 208, 3) := by decide +kernel
theorem dX8_back_50 : decode cX8_back 50 = .ok (.iconst 1, 1) := by decide +kernel
theorem dX8_back_51 : decode cX8_back 51 = .ok (.if_icmp .ne 15, 3) := by decide +kernel
theorem dX8_back_54 : decode cX8_back 54 = .ok (.aload 5, 2) := by decide +kernel
theorem dX8_back_56 : decode cX8_back 56 = .ok (.getfield 262, 3) := by decide +kernel
theorem dX8_back_59 : decode cX8_back 59 = .ok (.aload_n 0, 1) := by decide +kernel
theorem dX8_back_60 : decode cX8_back 60 = .ok (.getfield 79, 3) := by decide +kernel
theorem dX8_back_63 : decode cX8_back 63 = .ok (.if_icmp .lt 6, 3) := by decide +kernel
theorem dX8_back_66 : decode cX8_back 66 = .ok (.bipush (-4), 2) := by decide +kernel
theorem dX8_back_68 : decode cX8_back 68 = .ok (.ireturn, 1) := by decide +kernel
theorem dX8_back_69 : decode cX8_back 69 = .ok (.aload 5, 2) := by decide +kernel
theorem dX8_back_71 : decode cX8_back 71 = .ok (.aload_n 0, 1) := by decide +kernel
theorem dX8_back_72 : decode cX8_back 72 = .ok (.getfield 79, 3) := by decide +kernel
theorem dX8_back_75 : decode cX8_back 75 = .ok (.invokevirtual 265, 3) := by decide +kernel
theorem dX8_back_78 : decode cX8_back 78 = .ok (.aload_n 0, 1) := by decide +kernel
theorem dX8_back_79 : decode cX8_back 79 = .ok (.aload 5, 2) := by decide +kernel
theorem dX8_back_81 : decode cX8_back 81 = .ok (.iconst 0, 1) := by decide +kernel
theorem dX8_back_82 : decode cX8_back 82 = .ok (.iload_n 2, 1) := by decide +kernel
theorem dX8_back_83 : decode cX8_back 83 = .ok (.invokevirtual 268, 3) := by decide +kernel
theorem dX8_back_86 : decode cX8_back 86 = .ok (.aload_n 0, 1) := by decide +kernel
theorem dX8_back_87 : decode cX8_back 87 = .ok (.aload 5, 2) := by decide +kernel
theorem dX8_back_89 : decode cX8_back 89 = .ok (.iconst 1, 1) := by decide +kernel
theorem dX8_back_90 : decode cX8_back 90 = .ok (.iload_n 3, 1) := by decide +kernel
theorem dX8_back_91 : decode cX8_back 91 = .ok (.invokevirtual 268, 3) := by decide +kernel
theorem dX8_back_94 : decode cX8_back 94 = .ok (.aload_n 0, 1) := by decide +kernel
theorem dX8_back_95 : decode cX8_back 95 = .ok (.aload 5, 2) := by decide +kernel
theorem dX8_back_97 : decode cX8_back 97 = .ok (.iconst 2, 1) := by decide +kernel
theorem dX8_back_98 : decode cX8_back 98 = .ok (.iload 4, 2) := by decide +kernel
theorem dX8_back_100 : decode cX8_back 100 = .ok (.invokevirtual 268, 3) := by decide +kernel
theorem dX8_back_103 : decode cX8_back 103 = .ok (.aload 5, 2) := by decide +kernel
theorem dX8_back_105 : decode cX8_back 105 = .ok (.getfield 272, 3) := by decide +kernel
theorem dX8_back_108 : decode cX8_back 108 = .ok (.ireturn, 1) := by decide +kernel
theorem dX8_board_0 : decode cX8_board 0 = .ok (.aload_n 0, 1) := by decide +kernel
theorem dX8_board_1 : decode cX8_board 1 = .ok (.iload_n 3, 1) := by decide +kernel
theorem dX8_board_2 : decode cX8_board 2 = .ok (.invokevirtual 102, 3) := by decide +kernel
theorem dX8_board_5 : decode cX8_board 5 = .ok (.astore 4, 2) := by decide +kernel
theorem dX8_board_7 : decode cX8_board 7 = .ok (.aload 4, 2) := by decide +kernel
theorem dX8_board_9 : decode cX8_board 9 = .ok (.ifnull 10, 3) := by decide +kernel
theorem dX8_board_12 : decode cX8_board 12 = .ok (.iload_n 1, 1) := by decide +kernel
theorem dX8_board_13 : decode cX8_board 13 = .ok (.invokestatic 202, 3) := by decide +kernel
theorem dX8_board_16 : decode cX8_board 16 = .ok (.ifCond .ne 4, 3) := by decide +kernel
theorem dX8_board_19 : decode cX8_board 19 = .ok (.return_, 1) := by decide +kernel
theorem dX8_board_20 : decode cX8_board 20 = .ok (.aload_n 0, 1) := by decide +kernel
theorem dX8_board_21 : decode cX8_board 21 = .ok (.aload 4, 2) := by decide +kernel
theorem dX8_board_23 : decode cX8_board 23 = .ok (.invokevirtual 358, 3) := by decide +kernel
theorem dX8_board_26 : decode cX8_board 26 = .ok (.aload_n 0, 1) := by decide +kernel
theorem dX8_board_27 : decode cX8_board 27 = .ok (.getfield 44, 3) := by decide +kernel
theorem dX8_board_30 : decode cX8_board 30 = .ok (.getfield 311, 3) := by decide +kernel
theorem dX8_board_33 : decode cX8_board 33 = .ok (.ifCond .ne 4, 3) := by decide +kernel
theorem dX8_board_36 : decode cX8_board 36 = .ok (.return_, 1) := by decide +kernel
theorem dX8_board_37 : decode cX8_board 37 = .ok (.aload_n 0, 1) := by decide +kernel
theorem dX8_board_38 : decode cX8_board 38 = .ok (.getfield 44, 3) := by decide +kernel
theorem dX8_board_41 : decode cX8_board 41 = .ok (.invokevirtual 340, 3) := by decide +kernel
theorem dX8_board_44 : decode cX8_board 44 = .ok (.aload_n 0, 1) := by decide +kernel
theorem dX8_board_45 : decode cX8_board 45 = .ok (.getfield 44, 3) := by decide +kernel
theorem dX8_board_48 : decode cX8_board 48 = .ok (.getfield 311, 3) := by decide +kernel
theorem dX8_board_51 : decode cX8_board 51 = .ok (.invokestatic 362, 3) := by decide +kernel
theorem dX8_board_54 : decode cX8_board 54 = .ok (.istore 5, 2) := by decide +kernel
theorem dX8_board_56 : decode cX8_board 56 = .ok (.iconst 1, 1) := by decide +kernel
theorem dX8_board_57 : decode cX8_board 57 = .ok (.aload_n 0, 1) := by decide +kernel
theorem dX8_board_58 : decode cX8_board 58 = .ok (.getfield 44, 3) := by decide +kernel
theorem dX8_board_61 : decode cX8_board 61 = .ok (.invokevirtual 331, 3) := by decide +kernel
theorem dX8_board_64 : decode cX8_board 64 = .ok (.aload_n 0, 1) := by decide +kernel
theorem dX8_board_65 : decode cX8_board 65 = .ok (.getfield 44, 3) := by decide +kernel
theorem dX8_board_68 : decode cX8_board 68 = .ok (.invokevirtual 328, 3) := by decide +kernel
theorem dX8_board_71 : decode cX8_board 71 = .ok (.isub, 1) := by decide +kernel
theorem dX8_board_72 : decode cX8_board 72 = .ok (.iconst 2, 1) := by decide +kernel
theorem dX8_board_73 : decode cX8_board 73 = .ok (.idiv, 1) := by decide +kernel
theorem dX8_board_74 : decode cX8_board 74 = .ok (.iadd, 1) := by decide +kernel
theorem dX8_board_75 : decode cX8_board 75 = .ok (.istore 6, 2) := by decide +kernel
theorem dX8_board_77 : decode cX8_board 77 = .ok (.aload_n 0, 1) := by decide +kernel
theorem dX8_board_78 : decode cX8_board 78 = .ok (.getfield 27, 3) := by decide +kernel
theorem dX8_board_81 : decode cX8_board 81 = .ok (.iload_n 1, 1) := by decide +kernel
theorem dX8_board_82 : decode cX8_board 82 = .ok (.aaload, 1) := by decide +kernel
theorem dX8_board_83 : decode cX8_board 83 = .ok (.iload_n 2, 1) := by decide +kernel
theorem dX8_board_84 : decode cX8_board 84 = .ok (.iload_n 3, 1) := by decide +kernel
theorem dX8_board_85 : decode cX8_board 85 = .ok (.aload 4, 2) := by decide +kernel
theorem dX8_board_87 : decode cX8_board 87 = .ok (.aload_n 0, 1) := by decide +kernel
theorem dX8_board_88 : decode cX8_board 88 = .ok (.getfield 79, 3) := by decide +kernel
theorem dX8_board_91 : decode cX8_board 91 = .ok (.aload_n 0, 1) := by decide +kernel
theorem dX8_board_92 : decode cX8_board 92 = .ok (.getfield 37, 3) := by decide +kernel
theorem dX8_board_95 : decode cX8_board 95 = .ok (.iconst (-1), 1) := by decide +kernel
theorem dX8_board_96 : decode cX8_board 96 = .ok (.invokevirtual 128, 3) := by decide +kernel
theorem dX8_board_99 : decode cX8_board 99 = .ok (.iload 5, 2) := by decide +kernel
theorem dX8_board_101 : decode cX8_board 101 = .ok (.iload 6, 2) := by decide +kernel
theorem dX8_board_103 : decode cX8_board 103 = .ok (.invokevirtual 365, 3) := by decide +kernel
theorem dX8_board_106 : decode cX8_board 106 = .ok (.aload 4, 2) := by decide +kernel
theorem dX8_board_108 : decode cX8_board 108 = .ok (.bipush 100, 2) := by decide +kernel
theorem dX8_board_110 : decode cX8_board 110 = .ok (.iload_n 1, 1) := by decide +kernel
theorem dX8_board_111 : decode cX8_board 111 = .ok (.iadd, 1) := by decide +kernel
theorem dX8_board_112 : decode cX8_board 112 = .ok (.aload_n 0, 1) := by decide +kernel
theorem dX8_board_113 : decode cX8_board 113 = .ok (.getfield 79, 3) := by decide +kernel
theorem dX8_board_116 : decode cX8_board 116 = .ok (.invokevirtual 288, 3) := by decide +kernel
theorem dX8_board_119 : decode cX8_board 119 = .ok (.return_, 1) := by decide +kernel
theorem dX8_bringWatch_0 : decode cX8_bringWatch 0 = .ok (.iload_n 1, 1) := by decide +kernel
theorem dX8_bringWatch_1 : decode cX8_bringWatch 1 = .ok (.invokestatic 92, 3) := by decide +kernel
theorem dX8_bringWatch_4 : decode cX8_bringWatch 4 = .ok (.ifCond .ne 4, 3) := by decide +kernel
theorem dX8_bringWatch_7 : decode cX8_bringWatch 7 = .ok (.return_, 1) := by decide +kernel
theorem dX8_bringWatch_8 : decode cX8_bringWatch 8 = .ok (.aload_n 0, 1) := by decide +kernel
theorem dX8_bringWatch_9 : decode cX8_bringWatch 9 = .ok (.getfield 21, 3) := by decide +kernel
theorem dX8_bringWatch_12 : decode cX8_bringWatch 12 = .ok (.iload_n 1, 1) := by decide +kernel
theorem dX8_bringWatch_13 : decode cX8_bringWatch 13 = .ok (.aaload, 1) := by decide +kernel
theorem dX8_bringWatch_14 : decode cX8_bringWatch 14 = .ok (.ifnonnull 16, 3) := by decide +kernel
theorem dX8_bringWatch_17 : decode cX8_bringWatch 17 = .ok (.aload_n 0, 1) := by decide +kernel
theorem dX8_bringWatch_18 : decode cX8_bringWatch 18 = .ok (.getfield 21, 3) := by decide +kernel
theorem dX8_bringWatch_21 : decode cX8_bringWatch 21 = .ok (.iload_n 1, 1) := by decide +kernel
theorem dX8_bringWatch_22 : decode cX8_bringWatch 22 = .ok (.new 19, 3) := by decide +kernel
theorem dX8_bringWatch_25 : decode cX8_bringWatch 25 = .ok (.dup, 1) := by decide +kernel
theorem dX8_bringWatch_26 : decode cX8_bringWatch 26 = .ok (.invokespecial 301, 3) := by decide +kernel
theorem dX8_bringWatch_29 : decode cX8_bringWatch 29 = .ok (.aastore, 1) := by decide +kernel
theorem dX8_bringWatch_30 : decode cX8_bringWatch 30 = .ok (.aload_n 0, 1) := by decide +kernel
theorem dX8_bringWatch_31 : decode cX8_bringWatch 31 = .ok (.getfield 21, 3) := by decide +kernel
theorem dX8_bringWatch_34 : decode cX8_bringWatch 34 = .ok (.iload_n 1, 1) := by decide +kernel
theorem dX8_bringWatch_35 : decode cX8_bringWatch 35 = .ok (.aaload, 1) := by decide +kernel
theorem dX8_bringWatch_36 : decode cX8_bringWatch 36 = .ok (.invokevirtual 302, 3) := by decide +kernel
theorem dX8_bringWatch_39 : decode cX8_bringWatch 39 = .ok (.return_, 1) := by decide +kernel
theorem dX8_carried_0 : decode cX8_carried 0 = .ok (.iload_n 1, 1) := by decide +kernel
theorem dX8_carried_1 : decode cX8_carried 1 = .ok (.invokestatic 202, 3) := by decide +kernel
theorem dX8_carried_4 : decode cX8_carried 4 = .ok (.ifCond .eq 24, 3) := by decide +kernel
theorem dX8_carried_7 : decode cX8_carried 7 = .ok (.iload_n 2, 1) := by decide +kernel
theorem dX8_carried_8 : decode cX8_carried 8 = .ok (.ifCond .lt 20, 3) := by decide +kernel
theorem dX8_carried_11 : decode cX8_carried 11 = .ok (.iload_n 2, 1) := by decide +kernel
theorem dX8_carried_12 : decode cX8_carried 12 = .ok (.iconst 3, 1) := by decide +kernel
theorem dX8_carried_13 : decode cX8_carried 13 = .ok (.if_icmp .ge 15, 3) := by decide +kernel
theorem dX8_carried_16 : decode cX8_carried 16 = .ok (.aload_n 0, 1) := by decide +kernel
theorem dX8_carried_17 : decode cX8_carried 17 = .ok (.getfield 27, 3) := by decide +kernel
theorem dX8_carried_20 : decode cX8_carried 20 = .ok (.iload_n 1, 1) := by decide +kernel
theorem dX8_carried_21 : decode cX8_carried 21 = .ok (.aaload, 1) := by decide +kernel
theorem dX8_carried_22 : decode cX8_carried 22 = .ok (.getfield 208, 3) := by decide +kernel
theorem dX8_carried_25 : decode cX8_carried 25 = .ok (.ifCond .ne 6, 3) := by decide +kernel
theorem dX8_carried_28 : decode cX8_carried 28 = .ok (.ldc 110, 2) := by decide +kernel
theorem dX8_carried_30 : decode cX8_carried 30 = .ok (.ireturn, 1) := by decide +kernel
theorem dX8_carried_31 : decode cX8_carried 31 = .ok (.aload_n 0, 1) := by decide +kernel
theorem dX8_carried_32 : decode cX8_carried 32 = .ok (.getfield 27, 3) := by decide +kernel
theorem dX8_carried_35 : decode cX8_carried 35 = .ok (.iload_n 1, 1) := by decide +kernel
theorem dX8_carried_36 : decode cX8_carried 36 = .ok (.aaload, 1) := by decide +kernel
theorem dX8_carried_37 : decode cX8_carried 37 = .ok (.astore 4, 2) := by decide +kernel
theorem dX8_carried_39 : decode cX8_carried 39 = .ok (.iload_n 3, 1) := by decide +kernel
theorem dX8_carried_40 : decode cX8_carried 40 = .ok (.tableswitch 64 0 3 #[32, 40, 48, 56], 32) := by decide +kernel
theorem dX8_carried_72 : decode cX8_carried 72 = .ok (.aload 4, 2) := by decide +kernel
theorem dX8_carried_74 : decode cX8_carried 74 = .ok (.getfield 220, 3) := by decide +kernel
theorem dX8_carried_77 : decode cX8_carried 77 = .ok (.iload_n 2, 1) := by decide +kernel
theorem dX8_carried_78 : decode cX8_carried 78 = .ok (.iaload, 1) := by decide +kernel
theorem dX8_carried_79 : decode cX8_carried 79 = .ok (.ireturn, 1) := by decide +kernel
theorem dX8_carried_80 : decode cX8_carried 80 = .ok (.aload 4, 2) := by decide +kernel
theorem dX8_carried_82 : decode cX8_carried 82 = .ok (.getfield 223, 3) := by decide +kernel
theorem dX8_carried_85 : decode cX8_carried 85 = .ok (.iload_n 2, 1) := by decide +kernel
theorem dX8_carried_86 : decode cX8_carried 86 = .ok (.iaload, 1) := by decide +kernel
theorem dX8_carried_87 : decode cX8_carried 87 = .ok (.ireturn, 1) := by decide +kernel
theorem dX8_carried_88 : decode cX8_carried 88 = .ok (.aload 4, 2) := by decide +kernel
theorem dX8_carried_90 : decode cX8_carried 90 = .ok (.getfield 226, 3) := by decide +kernel
theorem dX8_carried_93 : decode cX8_carried 93 = .ok (.iload_n 2, 1) := by decide +kernel
theorem dX8_carried_94 : decode cX8_carried 94 = .ok (.iaload, 1) := by decide +kernel
theorem dX8_carried_95 : decode cX8_carried 95 = .ok (.ireturn, 1) := by decide +kernel
theorem dX8_carried_96 : decode cX8_carried 96 = .ok (.aload 4, 2) := by decide +kernel
theorem dX8_carried_98 : decode cX8_carried 98 = .ok (.getfield 229, 3) := by decide +kernel
theorem dX8_carried_101 : decode cX8_carried 101 = .ok (.iload_n 2, 1) := by decide +kernel
theorem dX8_carried_102 : decode cX8_carried 102 = .ok (.iaload, 1) := by decide +kernel
theorem dX8_carried_103 : decode cX8_carried 103 = .ok (.ireturn, 1) := by decide +kernel
theorem dX8_carried_104 : decode cX8_carried 104 = .ok (.ldc 110, 2) := by decide +kernel
theorem dX8_carried_106 : decode cX8_carried 106 = .ok (.ireturn, 1) := by decide +kernel
theorem dX8_changed_0 : decode cX8_changed 0 = .ok (.iload_n 1, 1) := by decide +kernel
theorem dX8_changed_1 : decode cX8_changed 1 = .ok (.invokestatic 92, 3) := by decide +kernel
theorem dX8_changed_4 : decode cX8_changed 4 = .ok (.ifCond .eq 19, 3) := by decide +kernel
theorem dX8_changed_7 : decode cX8_changed 7 = .ok (.iload_n 2, 1) := by decide +kernel
theorem dX8_changed_8 : decode cX8_changed 8 = .ok (.iload_n 3, 1) := by decide +kernel
theorem dX8_changed_9 : decode cX8_changed 9 = .ok (.invokestatic 149, 3) := by decide +kernel
theorem dX8_changed_12 : decode cX8_changed 12 = .ok (.ifCond .eq 11, 3) := by decide +kernel
theorem dX8_changed_15 : decode cX8_changed 15 = .ok (.iload 4, 2) := by decide +kernel
theorem dX8_changed_17 : decode cX8_changed 17 = .ok (.invokestatic 125, 3) := by decide +kernel
theorem dX8_changed_20 : decode cX8_changed 20 = .ok (.ifCond .ne 5, 3) := by decide +kernel
theorem dX8_changed_23 : decode cX8_changed 23 = .ok (.iconst (-1), 1) := by decide +kernel
theorem dX8_changed_24 : decode cX8_changed 24 = .ok (.ireturn, 1) := by decide +kernel
theorem dX8_changed_25 : decode cX8_changed 25 = .ok (.aload_n 0, 1) := by decide +kernel
theorem dX8_changed_26 : decode cX8_changed 26 = .ok (.iload_n 1, 1) := by decide +kernel
theorem dX8_changed_27 : decode cX8_changed 27 = .ok (.invokevirtual 102, 3) := by decide +kernel
theorem dX8_changed_30 : decode cX8_changed 30 = .ok (.astore 5, 2) := by decide +kernel
theorem dX8_changed_32 : decode cX8_changed 32 = .ok (.aload 5, 2) := by decide +kernel
theorem dX8_changed_34 : decode cX8_changed 34 = .ok (.ifnonnull 9, 3) := by decide +kernel
theorem dX8_changed_37 : decode cX8_changed 37 = .ok (.aload_n 0, 1) := by decide +kernel
theorem dX8_changed_38 : decode cX8_changed 38 = .ok (.iload_n 1, 1) := by decide +kernel
theorem dX8_changed_39 : decode cX8_changed 39 = .ok (.invokevirtual 115, 3) := by decide +kernel
theorem dX8_changed_42 : decode cX8_changed 42 = .ok (.ireturn, 1) := by decide +kernel
theorem dX8_changed_43 : decode cX8_changed 43 = .ok (.iconst 0, 1) := by decide +kernel
theorem dX8_changed_44 : decode cX8_changed 44 = .ok (.istore 6, 2) := by decide +kernel
theorem dX8_changed_46 : decode cX8_changed 46 = .ok (.iload_n 2, 1) := by decide +kernel
theorem dX8_changed_47 : decode cX8_changed 47 = .ok (.istore 7, 2) := by decide +kernel
theorem dX8_changed_49 : decode cX8_changed 49 = .ok (.iload 7, 2) := by decide +kernel
theorem dX8_changed_51 : decode cX8_changed 51 = .ok (.iload_n 3, 1) := by decide +kernel
theorem dX8_changed_52 : decode cX8_changed 52 = .ok (.if_icmp .ge 40, 3) := by decide +kernel
theorem dX8_changed_55 : decode cX8_changed 55 = .ok (.aload 5, 2) := by decide +kernel
theorem dX8_changed_57 : decode cX8_changed 57 = .ok (.iload 7, 2) := by decide +kernel
theorem dX8_changed_59 : decode cX8_changed 59 = .ok (.aload_n 0, 1) := by decide +kernel
theorem dX8_changed_60 : decode cX8_changed 60 = .ok (.getfield 37, 3) := by decide +kernel
theorem dX8_changed_63 : decode cX8_changed 63 = .ok (.iload 4, 2) := by decide +kernel
theorem dX8_changed_65 : decode cX8_changed 65 = .ok (.invokevirtual 132, 3) := by decide +kernel
theorem dX8_changed_68 : decode cX8_changed 68 = .ok (.aload 5, 2) := by decide +kernel
theorem dX8_changed_70 : decode cX8_changed 70 = .ok (.iload 7, 2) := by decide +kernel
theorem dX8_changed_72 : decode cX8_changed 72 = .ok (.aload_n 0, 1) := by decide +kernel
theorem dX8_changed_73 : decode cX8_changed 73 = .ok (.getfield 37, 3) := by decide +kernel
theorem dX8_changed_76 : decode cX8_changed 76 = .ok (.iconst (-1), 1) := by decide +kernel
theorem dX8_changed_77 : decode cX8_changed 77 = .ok (.invokevirtual 132, 3) := by decide +kernel
theorem dX8_changed_80 : decode cX8_changed 80 = .ok (.if_icmp .eq 6, 3) := by decide +kernel
theorem dX8_changed_83 : decode cX8_changed 83 = .ok (.iinc 6 1, 3) := by decide +kernel
theorem dX8_changed_86 : decode cX8_changed 86 = .ok (.iinc 7 1, 3) := by decide +kernel
theorem dX8_changed_89 : decode cX8_changed 89 = .ok (.goto (-40), 3) := by decide +kernel
theorem dX8_changed_92 : decode cX8_changed 92 = .ok (.iload 6, 2) := by decide +kernel
theorem dX8_changed_94 : decode cX8_changed 94 = .ok (.ireturn, 1) := by decide +kernel
theorem dX8_compare_0 : decode cX8_compare 0 = .ok (.iload_n 1, 1) := by decide +kernel
theorem dX8_compare_1 : decode cX8_compare 1 = .ok (.invokestatic 92, 3) := by decide +kernel
theorem dX8_compare_4 : decode cX8_compare 4 = .ok (.ifCond .eq 32, 3) := by decide +kernel
theorem dX8_compare_7 : decode cX8_compare 7 = .ok (.aload_n 0, 1) := by decide +kernel
theorem dX8_compare_8 : decode cX8_compare 8 = .ok (.iload_n 2, 1) := by decide +kernel
theorem dX8_compare_9 : decode cX8_compare 9 = .ok (.invokevirtual 111, 3) := by decide +kernel
theorem dX8_compare_12 : decode cX8_compare 12 = .ok (.ifCond .eq 24, 3) := by decide +kernel
theorem dX8_compare_15 : decode cX8_compare 15 = .ok (.iload_n 3, 1) := by decide +kernel
theorem dX8_compare_16 : decode cX8_compare 16 = .ok (.ldc 114, 2) := by decide +kernel
theorem dX8_compare_18 : decode cX8_compare 18 = .ok (.invokestatic 88, 3) := by decide +kernel
theorem dX8_compare_21 : decode cX8_compare 21 = .ok (.ifCond .eq 15, 3) := by decide +kernel
theorem dX8_compare_24 : decode cX8_compare 24 = .ok (.iload 4, 2) := by decide +kernel
theorem dX8_compare_26 : decode cX8_compare 26 = .ok (.ifCond .lt 10, 3) := by decide +kernel
theorem dX8_compare_29 : decode cX8_compare 29 = .ok (.iload 4, 2) := by decide +kernel
theorem dX8_compare_31 : decode cX8_compare 31 = .ok (.bipush 6, 2) := by decide +kernel
theorem dX8_compare_33 : decode cX8_compare 33 = .ok (.if_icmp .lt 5, 3) := by decide +kernel
theorem dX8_compare_36 : decode cX8_compare 36 = .ok (.iconst (-1), 1) := by decide +kernel
theorem dX8_compare_37 : decode cX8_compare 37 = .ok (.ireturn, 1) := by decide +kernel
theorem dX8_compare_38 : decode cX8_compare 38 = .ok (.aload_n 0, 1) := by decide +kernel
theorem dX8_compare_39 : decode cX8_compare 39 = .ok (.iload_n 1, 1) := by decide +kernel
theorem dX8_compare_40 : decode cX8_compare 40 = .ok (.invokevirtual 102, 3) := by decide +kernel
theorem dX8_compare_43 : decode cX8_compare 43 = .ok (.astore 5, 2) := by decide +kernel
theorem dX8_compare_45 : decode cX8_compare 45 = .ok (.aload 5, 2) := by decide +kernel
theorem dX8_compare_47 : decode cX8_compare 47 = .ok (.ifnonnull 9, 3) := by decide +kernel
theorem dX8_compare_50 : decode cX8_compare 50 = .ok (.aload_n 0, 1) := by decide +kernel
theorem dX8_compare_51 : decode cX8_compare 51 = .ok (.iload_n 1, 1) := by decide +kernel
theorem dX8_compare_52 : decode cX8_compare 52 = .ok (.invokevirtual 115, 3) := by decide +kernel
theorem dX8_compare_55 : decode cX8_compare 55 = .ok (.ireturn, 1) := by decide +kernel
theorem dX8_compare_56 : decode cX8_compare 56 = .ok (.aload 5, 2) := by decide +kernel
theorem dX8_compare_58 : decode cX8_compare 58 = .ok (.iload_n 2, 1) := by decide +kernel
theorem dX8_compare_59 : decode cX8_compare 59 = .ok (.invokevirtual 118, 3) := by decide +kernel
theorem dX8_compare_62 : decode cX8_compare 62 = .ok (.ifCond .ne 13, 3) := by decide +kernel
theorem dX8_compare_65 : decode cX8_compare 65 = .ok (.aload 5, 2) := by decide +kernel
theorem dX8_compare_67 : decode cX8_compare 67 = .ok (.iload_n 2, 1) := by decide +kernel
theorem dX8_compare_68 : decode cX8_compare 68 = .ok (.invokevirtual 106, 3) := by decide +kernel
theorem dX8_compare_71 : decode cX8_compare 71 = .ok (.iconst (-1), 1) := by decide +kernel
theorem dX8_compare_72 : decode cX8_compare 72 = .ok (.if_icmp .eq 6, 3) := by decide +kernel
theorem dX8_compare_75 : decode cX8_compare 75 = .ok (.bipush (-4), 2) := by decide +kernel
theorem dX8_compare_77 : decode cX8_compare 77 = .ok (.ireturn, 1) := by decide +kernel
theorem dX8_compare_78 : decode cX8_compare 78 = .ok (.aload 5, 2) := by decide +kernel
theorem dX8_compare_80 : decode cX8_compare 80 = .ok (.iload_n 2, 1) := by decide +kernel
theorem dX8_compare_81 : decode cX8_compare 81 = .ok (.iload_n 3, 1) := by decide +kernel
theorem dX8_compare_82 : decode cX8_compare 82 = .ok (.iload 4, 2) := by decide +kernel
theorem dX8_compare_84 : decode cX8_compare 84 = .ok (.invokevirtual 121, 3) := by decide +kernel
theorem dX8_compare_87 : decode cX8_compare 87 = .ok (.iconst 1, 1) := by decide +kernel
theorem dX8_compare_88 : decode cX8_compare 88 = .ok (.ireturn, 1) := by decide +kernel
theorem dX8_count_0 : decode cX8_count 0 = .ok (.iload_n 1, 1) := by decide +kernel
theorem dX8_count_1 : decode cX8_count 1 = .ok (.tableswitch 95 0 6 #[43, 55, 60, 68, 73, 81, 87], 43) := by decide +kernel
theorem dX8_count_44 : decode cX8_count 44 = .ok (.aload_n 0, 1) := by decide +kernel
theorem dX8_count_45 : decode cX8_count 45 = .ok (.iconst 0, 1) := by decide +kernel
theorem dX8_count_46 : decode cX8_count 46 = .ok (.invokevirtual 295, 3) := by decide +kernel
theorem dX8_count_49 : decode cX8_count 49 = .ok (.aload_n 0, 1) := by decide +kernel
theorem dX8_count_50 : decode cX8_count 50 = .ok (.iconst 1, 1) := by decide +kernel
theorem dX8_count_51 : decode cX8_count 51 = .ok (.invokevirtual 295, 3) := by decide +kernel
theorem dX8_count_54 : decode cX8_count 54 = .ok (.iadd, 1) := by decide +kernel
theorem dX8_count_55 : decode cX8_count 55 = .ok (.ireturn, 1) := by decide +kernel
theorem dX8_count_56 : decode cX8_count 56 = .ok (.aload_n 0, 1) := by decide +kernel
theorem dX8_count_57 : decode cX8_count 57 = .ok (.getfield 79, 3) := by decide +kernel
theorem dX8_count_60 : decode cX8_count 60 = .ok (.ireturn, 1) := by decide +kernel
theorem dX8_count_61 : decode cX8_count 61 = .ok (.aload_n 0, 1) := by decide +kernel
theorem dX8_count_62 : decode cX8_count 62 = .ok (.getfield 37, 3) := by decide +kernel
theorem dX8_count_65 : decode cX8_count 65 = .ok (.getfield 142, 3) := by decide +kernel
theorem dX8_count_68 : decode cX8_count 68 = .ok (.ireturn, 1) := by decide +kernel
theorem dX8_count_69 : decode cX8_count 69 = .ok (.aload_n 0, 1) := by decide +kernel
theorem dX8_count_70 : decode cX8_count 70 = .ok (.invokevirtual 298, 3) := by decide +kernel
theorem dX8_count_73 : decode cX8_count 73 = .ok (.ireturn, 1) := by decide +kernel
theorem dX8_count_74 : decode cX8_count 74 = .ok (.aload_n 0, 1) := by decide +kernel
theorem dX8_count_75 : decode cX8_count 75 = .ok (.getfield 58, 3) := by decide +kernel
theorem dX8_count_78 : decode cX8_count 78 = .ok (.getfield 179, 3) := by decide +kernel
theorem dX8_count_81 : decode cX8_count 81 = .ok (.ireturn, 1) := by decide +kernel
theorem dX8_count_82 : decode cX8_count 82 = .ok (.aload_n 0, 1) := by decide +kernel
theorem dX8_count_83 : decode cX8_count 83 = .ok (.iconst 2, 1) := by decide +kernel
theorem dX8_count_84 : decode cX8_count 84 = .ok (.invokevirtual 295, 3) := by decide +kernel
theorem dX8_count_87 : decode cX8_count 87 = .ok (.ireturn, 1) := by decide +kernel
theorem dX8_count_88 : decode cX8_count 88 = .ok (.aload_n 0, 1) := by decide +kernel
theorem dX8_count_89 : decode cX8_count 89 = .ok (.getfield 65, 3) := by decide +kernel
theorem dX8_count_92 : decode cX8_count 92 = .ok (.getfield 275, 3) := by decide +kernel
theorem dX8_count_95 : decode cX8_count 95 = .ok (.ireturn, 1) := by decide +kernel
theorem dX8_count_96 : decode cX8_count 96 = .ok (.iconst (-1), 1) := by decide +kernel
theorem dX8_count_97 : decode cX8_count 97 = .ok (.ireturn, 1) := by decide +kernel
theorem dX8_days_0 : decode cX8_days 0 = .ok (.iload_n 1, 1) := by decide +kernel
theorem dX8_days_1 : decode cX8_days 1 = .ok (.iconst 1, 1) := by decide +kernel
theorem dX8_days_2 : decode cX8_days 2 = .ok (.if_icmp .lt 21, 3) := by decide +kernel
theorem dX8_days_5 : decode cX8_days 5 = .ok (.iload_n 1, 1) := by decide +kernel
theorem dX8_days_6 : decode cX8_days 6 = .ok (.bipush 100, 2) := by decide +kernel
theorem dX8_days_8 : decode cX8_days 8 = .ok (.if_icmp .gt 15, 3) := by decide +kernel
theorem dX8_days_11 : decode cX8_days 11 = .ok (.aload_n 0, 1) := by decide +kernel
theorem dX8_days_12 : decode cX8_days 12 = .ok (.getfield 79, 3) := by decide +kernel
theorem dX8_days_15 : decode cX8_days 15 = .ok (.iload_n 1, 1) := by decide +kernel
theorem dX8_days_16 : decode cX8_days 16 = .ok (.iadd, 1) := by decide +kernel
theorem dX8_days_17 : decode cX8_days 17 = .ok (.sipush 400, 3) := by decide +kernel
theorem dX8_days_20 : decode cX8_days 20 = .ok (.if_icmp .lt 5, 3) := by decide +kernel
theorem dX8_days_23 : decode cX8_days 23 = .ok (.iconst (-1), 1) := by decide +kernel
theorem dX8_days_24 : decode cX8_days 24 = .ok (.ireturn, 1) := by decide +kernel
theorem dX8_days_25 : decode cX8_days 25 = .ok (.aload_n 0, 1) := by decide +kernel
theorem dX8_days_26 : decode cX8_days 26 = .ok (.dup, 1) := by decide +kernel
theorem dX8_days_27 : decode cX8_days 27 = .ok (.getfield 79, 3) := by decide +kernel
theorem dX8_days_30 : decode cX8_days 30 = .ok (.iload_n 1, 1) := by decide +kernel
theorem dX8_days_31 : decode cX8_days 31 = .ok (.iadd, 1) := by decide +kernel
theorem dX8_days_32 : decode cX8_days 32 = .ok (.putfield 79, 3) := by decide +kernel
theorem dX8_days_35 : decode cX8_days 35 = .ok (.aload_n 0, 1) := by decide +kernel
theorem dX8_days_36 : decode cX8_days 36 = .ok (.getfield 79, 3) := by decide +kernel
theorem dX8_days_39 : decode cX8_days 39 = .ok (.ireturn, 1) := by decide +kernel
theorem dX8_deal_0 : decode cX8_deal 0 = .ok (.iload_n 1, 1) := by decide +kernel
theorem dX8_deal_1 : decode cX8_deal 1 = .ok (.iconst 1, 1) := by decide +kernel
theorem dX8_deal_2 : decode cX8_deal 2 = .ok (.if_icmp .lt 40, 3) := by decide +kernel
theorem dX8_deal_5 : decode cX8_deal 5 = .ok (.iload_n 1, 1) := by decide +kernel
theorem dX8_deal_6 : decode cX8_deal 6 = .ok (.sipush 400, 3) := by decide +kernel
theorem dX8_deal_9 : decode cX8_deal 9 = .ok (.if_icmp .gt 33, 3) := by decide +kernel
theorem dX8_deal_12 : decode cX8_deal 12 = .ok (.iload_n 2, 1) := by decide +kernel
theorem dX8_deal_13 : decode cX8_deal 13 = .ok (.ifCond .lt 29, 3) := by decide +kernel
theorem dX8_deal_16 : decode cX8_deal 16 = .ok (.iload_n 2, 1) := by decide +kernel
theorem dX8_deal_17 : decode cX8_deal 17 = .ok (.sipush 400, 3) := by decide +kernel
theorem dX8_deal_20 : decode cX8_deal 20 = .ok (.if_icmp .gt 22, 3) := by decide +kernel
theorem dX8_deal_23 : decode cX8_deal 23 = .ok (.iload_n 3, 1) := by decide +kernel
theorem dX8_deal_24 : decode cX8_deal 24 = .ok (.ifCond .lt 18, 3) := by decide +kernel
theorem dX8_deal_27 : decode cX8_deal 27 = .ok (.iload_n 3, 1) := by decide +kernel
theorem dX8_deal_28 : decode cX8_deal 28 = .ok (.sipush 400, 3) := by decide +kernel
theorem dX8_deal_31 : decode cX8_deal 31 = .ok (.if_icmp .gt 11, 3) := by decide +kernel
theorem dX8_deal_34 : decode cX8_deal 34 = .ok (.iload_n 2, 1) := by decide +kernel
theorem dX8_deal_35 : decode cX8_deal 35 = .ok (.ifCond .ne 9, 3) := by decide +kernel
theorem dX8_deal_38 : decode cX8_deal 38 = .ok (.iload_n 3, 1) := by decide +kernel
theorem dX8_deal_39 : decode cX8_deal 39 = .ok (.ifCond .eq 5, 3) := by decide +kernel
theorem dX8_deal_42 : decode cX8_deal 42 = .ok (.iconst (-1), 1) := by decide +kernel
theorem dX8_deal_43 : decode cX8_deal 43 = .ok (.ireturn, 1) := by decide +kernel
theorem dX8_deal_44 : decode cX8_deal 44 = .ok (.iload_n 2, 1) := by decide +kernel
theorem dX8_deal_45 : decode cX8_deal 45 = .ok (.ifCond .ne 7, 3) := by decide +kernel
theorem dX8_deal_48 : decode cX8_deal 48 = .ok (.iconst 1, 1) := by decide +kernel
theorem dX8_deal_49 : decode cX8_deal 49 = .ok (.goto 12, 3) := by decide +kernel
theorem dX8_deal_52 : decode cX8_deal 52 = .ok (.iload_n 3, 1) := by decide +kernel
theorem dX8_deal_53 : decode cX8_deal 53 = .ok (.ifCond .ne 7, 3) := by decide +kernel
theorem dX8_deal_56 : decode cX8_deal 56 = .ok (.iconst 2, 1) := by decide +kernel
theorem dX8_deal_57 : decode cX8_deal 57 = .ok (.goto 4, 3) := by decide +kernel
theorem dX8_deal_60 : decode cX8_deal 60 = .ok (.iconst 3, 1) := by decide +kernel
theorem dX8_deal_61 : decode cX8_deal 61 = .ok (.istore 4, 2) := by decide +kernel
theorem dX8_deal_63 : decode cX8_deal 63 = .ok (.aload_n 0, 1) := by decide +kernel
theorem dX8_deal_64 : decode cX8_deal 64 = .ok (.getfield 65, 3) := by decide +kernel
theorem dX8_deal_67 : decode cX8_deal 67 = .ok (.getfield 275, 3) := by decide +kernel
theorem dX8_deal_70 : decode cX8_deal 70 = .ok (.iconst 3, 1) := by decide +kernel
theorem dX8_deal_71 : decode cX8_deal 71 = .ok (.iload 4, 2) := by decide +kernel
theorem dX8_deal_73 : decode cX8_deal 73 = .ok (.imul, 1) := by decide +kernel
theorem dX8_deal_74 : decode cX8_deal 74 = .ok (.if_icmp .ge 6, 3) := by decide +kernel
theorem dX8_deal_77 : decode cX8_deal 77 = .ok (.bipush (-4), 2) := by decide +kernel
theorem dX8_deal_79 : decode cX8_deal 79 = .ok (.ireturn, 1) := by decide +kernel
theorem dX8_deal_80 : decode cX8_deal 80 = .ok (.aload_n 0, 1) := by decide +kernel
theorem dX8_deal_81 : decode cX8_deal 81 = .ok (.getfield 65, 3) := by decide +kernel
theorem dX8_deal_84 : decode cX8_deal 84 = .ok (.iload 4, 2) := by decide +kernel
theorem dX8_deal_86 : decode cX8_deal 86 = .ok (.iload_n 1, 1) := by decide +kernel
theorem dX8_deal_87 : decode cX8_deal 87 = .ok (.iload_n 2, 1) := by decide +kernel
theorem dX8_deal_88 : decode cX8_deal 88 = .ok (.iload_n 3, 1) := by decide +kernel
theorem dX8_deal_89 : decode cX8_deal 89 = .ok (.invokevirtual 279, 3) := by decide +kernel
theorem dX8_deal_92 : decode cX8_deal 92 = .ok (.ireturn, 1) := by decide +kernel
theorem dX8_dealt_0 : decode cX8_dealt 0 = .ok (.iload_n 1, 1) := by decide +kernel
theorem dX8_dealt_1 : decode cX8_dealt 1 = .ok (.ifCond .lt 14, 3) := by decide +kernel
theorem dX8_dealt_4 : decode cX8_dealt 4 = .ok (.iload_n 1, 1) := by decide +kernel
theorem dX8_dealt_5 : decode cX8_dealt 5 = .ok (.aload_n 0, 1) := by decide +kernel
theorem dX8_dealt_6 : decode cX8_dealt 6 = .ok (.getfield 65, 3) := by decide +kernel
theorem dX8_dealt_9 : decode cX8_dealt 9 = .ok (.getfield 282, 3) := by decide +kernel
theorem dX8_dealt_12 : decode cX8_dealt 12 = .ok (.if_icmp .lt 8, 3) := by decide +kernel
theorem dX8_dealt_15 : decode cX8_dealt 15 = .ok (.ldc 110, 2) := by decide +kernel
theorem dX8_dealt_17 : decode cX8_dealt 17 = .ok (.goto 12, 3) := by decide +kernel
theorem dX8_dealt_20 : decode cX8_dealt 20 = .ok (.aload_n 0, 1) := by decide +kernel
theorem dX8_dealt_21 : decode cX8_dealt 21 = .ok (.getfield 65, 3) := by decide +kernel
theorem dX8_dealt_24 : decode cX8_dealt 24 = .ok (.getfield 285, 3) := by decide +kernel
theorem dX8_dealt_27 : decode cX8_dealt 27 = .ok (.iload_n 1, 1) := by decide +kernel
theorem dX8_dealt_28 : decode cX8_dealt 28 = .ok (.iaload, 1) := by decide +kernel
theorem dX8_dealt_29 : decode cX8_dealt 29 = .ok (.ireturn, 1) := by decide +kernel
theorem dX8_doubt_0 : decode cX8_doubt 0 = .ok (.iload_n 1, 1) := by decide +kernel
theorem dX8_doubt_1 : decode cX8_doubt 1 = .ok (.iconst 1, 1) := by decide +kernel
theorem dX8_doubt_2 : decode cX8_doubt 2 = .ok (.if_icmp .lt 10, 3) := by decide +kernel
theorem dX8_doubt_5 : decode cX8_doubt 5 = .ok (.iload_n 1, 1) := by decide +kernel
theorem dX8_doubt_6 : decode cX8_doubt 6 = .ok (.sipush 9999, 3) := by decide +kernel
theorem dX8_doubt_9 : decode cX8_doubt 9 = .ok (.if_icmp .le 5, 3) := by decide +kernel
theorem dX8_doubt_12 : decode cX8_doubt 12 = .ok (.iconst (-1), 1) := by decide +kernel
theorem dX8_doubt_13 : decode cX8_doubt 13 = .ok (.ireturn, 1) := by decide +kernel
theorem dX8_doubt_14 : decode cX8_doubt 14 = .ok (.aload_n 0, 1) := by decide +kernel
theorem dX8_doubt_15 : decode cX8_doubt 15 = .ok (.getfield 65, 3) := by decide +kernel
theorem dX8_doubt_18 : decode cX8_doubt 18 = .ok (.getfield 275, 3) := by decide +kernel
theorem dX8_doubt_21 : decode cX8_doubt 21 = .ok (.bipush 9, 2) := by decide +kernel
theorem dX8_doubt_23 : decode cX8_doubt 23 = .ok (.if_icmp .lt 6, 3) := by decide +kernel
theorem dX8_doubt_26 : decode cX8_doubt 26 = .ok (.bipush (-5), 2) := by decide +kernel
theorem dX8_doubt_28 : decode cX8_doubt 28 = .ok (.ireturn, 1) := by decide +kernel
theorem dX8_doubt_29 : decode cX8_doubt 29 = .ok (.aload_n 0, 1) := by decide +kernel
theorem dX8_doubt_30 : decode cX8_doubt 30 = .ok (.getfield 65, 3) := by decide +kernel
theorem dX8_doubt_33 : decode cX8_doubt 33 = .ok (.iload_n 1, 1) := by decide +kernel
theorem dX8_doubt_34 : decode cX8_doubt 34 = .ok (.invokevirtual 278, 3) := by decide +kernel
theorem dX8_doubt_37 : decode cX8_doubt 37 = .ok (.aload_n 0, 1) := by decide +kernel
theorem dX8_doubt_38 : decode cX8_doubt 38 = .ok (.getfield 65, 3) := by decide +kernel
theorem dX8_doubt_41 : decode cX8_doubt 41 = .ok (.getfield 275, 3) := by decide +kernel
theorem dX8_doubt_44 : decode cX8_doubt 44 = .ok (.ireturn, 1) := by decide +kernel
theorem dX8_droppedOf_0 : decode cX8_droppedOf 0 = .ok (.iconst (-1), 1) := by decide +kernel
theorem dX8_droppedOf_1 : decode cX8_droppedOf 1 = .ok (.istore_n 3, 1) := by decide +kernel
theorem dX8_droppedOf_2 : decode cX8_droppedOf 2 = .ok (.aload_n 0, 1) := by decide +kernel
theorem dX8_droppedOf_3 : decode cX8_droppedOf 3 = .ok (.getfield 76, 3) := by decide +kernel
theorem dX8_droppedOf_6 : decode cX8_droppedOf 6 = .ok (.getfield 327, 3) := by decide +kernel
theorem dX8_droppedOf_9 : decode cX8_droppedOf 9 = .ok (.ifCond .ne 5, 3) := by decide +kernel
theorem dX8_droppedOf_12 : decode cX8_droppedOf 12 = .ok (.iload_n 3, 1) := by decide +kernel
theorem dX8_droppedOf_13 : decode cX8_droppedOf 13 = .ok (.ireturn, 1) := by decide +kernel
theorem dX8_droppedOf_14 : decode cX8_droppedOf 14 = .ok (.iconst 0, 1) := by decide +kernel
theorem dX8_droppedOf_15 : decode cX8_droppedOf 15 = .ok (.istore 4, 2) := by decide +kernel
theorem dX8_droppedOf_17 : decode cX8_droppedOf 17 = .ok (.iconst 0, 1) := by decide +kernel
theorem dX8_droppedOf_18 : decode cX8_droppedOf 18 = .ok (.istore 5, 2) := by decide +kernel
theorem dX8_droppedOf_20 : decode cX8_droppedOf 20 = .ok (.iload 5, 2) := by decide +kernel
theorem dX8_droppedOf_22 : decode cX8_droppedOf 22 = .ok (.iconst 3, 1) := by decide +kernel
theorem dX8_droppedOf_23 : decode cX8_droppedOf 23 = .ok (.if_icmp .ge 81, 3) := by decide +kernel
theorem dX8_droppedOf_26 : decode cX8_droppedOf 26 = .ok (.aload_n 0, 1) := by decide +kernel
theorem dX8_droppedOf_27 : decode cX8_droppedOf 27 = .ok (.getfield 31, 3) := by decide +kernel
theorem dX8_droppedOf_30 : decode cX8_droppedOf 30 = .ok (.iconst 0, 1) := by decide +kernel
theorem dX8_droppedOf_31 : decode cX8_droppedOf 31 = .ok (.aload_n 1, 1) := by decide +kernel
theorem dX8_droppedOf_32 : decode cX8_droppedOf 32 = .ok (.iload_n 2, 1) := by decide +kernel
theorem dX8_droppedOf_33 : decode cX8_droppedOf 33 = .ok (.iload 5, 2) := by decide +kernel
theorem dX8_droppedOf_35 : decode cX8_droppedOf 35 = .ok (.invokevirtual 371, 3) := by decide +kernel
theorem dX8_droppedOf_38 : decode cX8_droppedOf 38 = .ok (.iastore, 1) := by decide +kernel
theorem dX8_droppedOf_39 : decode cX8_droppedOf 39 = .ok (.aload_n 0, 1) := by decide +kernel
theorem dX8_droppedOf_40 : decode cX8_droppedOf 40 = .ok (.getfield 31, 3) := by decide +kernel
theorem dX8_droppedOf_43 : decode cX8_droppedOf 43 = .ok (.iconst 1, 1) := by decide +kernel
theorem dX8_droppedOf_44 : decode cX8_droppedOf 44 = .ok (.aload_n 1, 1) := by decide +kernel
theorem dX8_droppedOf_45 : decode cX8_droppedOf 45 = .ok (.getfield 229, 3) := by decide +kernel
theorem dX8_droppedOf_48 : decode cX8_droppedOf 48 = .ok (.iload 5, 2) := by decide +kernel
theorem dX8_droppedOf_50 : decode cX8_droppedOf 50 = .ok (.iaload, 1) := by decide +kernel
theorem dX8_droppedOf_51 : decode cX8_droppedOf 51 = .ok (.iastore, 1) := by decide +kernel
theorem dX8_droppedOf_52 : decode cX8_droppedOf 52 = .ok (.aload_n 0, 1) := by decide +kernel
theorem dX8_droppedOf_53 : decode cX8_droppedOf 53 = .ok (.getfield 31, 3) := by decide +kernel
theorem dX8_droppedOf_56 : decode cX8_droppedOf 56 = .ok (.iconst 2, 1) := by decide +kernel
theorem dX8_droppedOf_57 : decode cX8_droppedOf 57 = .ok (.aload_n 1, 1) := by decide +kernel
theorem dX8_droppedOf_58 : decode cX8_droppedOf 58 = .ok (.iload_n 2, 1) := by decide +kernel
theorem dX8_droppedOf_59 : decode cX8_droppedOf 59 = .ok (.invokevirtual 374, 3) := by decide +kernel
theorem dX8_droppedOf_62 : decode cX8_droppedOf 62 = .ok (.iastore, 1) := by decide +kernel
theorem dX8_droppedOf_63 : decode cX8_droppedOf 63 = .ok (.aload_n 0, 1) := by decide +kernel
theorem dX8_droppedOf_64 : decode cX8_droppedOf 64 = .ok (.getfield 31, 3) := by decide +kernel
theorem dX8_droppedOf_67 : decode cX8_droppedOf 67 = .ok (.iconst 3, 1) := by decide +kernel
theorem dX8_droppedOf_68 : decode cX8_droppedOf 68 = .ok (.iload 5, 2) := by decide +kernel
theorem dX8_droppedOf_70 : decode cX8_droppedOf 70 = .ok (.iastore, 1) := by decide +kernel
theorem dX8_droppedOf_71 : decode cX8_droppedOf 71 = .ok (.aload_n 0, 1) := by decide +kernel
theorem dX8_droppedOf_72 : decode cX8_droppedOf 72 = .ok (.getfield 76, 3) := by decide +kernel
theorem dX8_droppedOf_75 : decode cX8_droppedOf 75 = .ok (.aload_n 0, 1) := by decide +kernel
theorem dX8_droppedOf_76 : decode cX8_droppedOf 76 = .ok (.getfield 31, 3) := by decide +kernel
theorem dX8_droppedOf_79 : decode cX8_droppedOf 79 = .ok (.invokevirtual 346, 3) := by decide +kernel
theorem dX8_droppedOf_82 : decode cX8_droppedOf 82 = .ok (.istore 6, 2) := by decide +kernel
theorem dX8_droppedOf_84 : decode cX8_droppedOf 84 = .ok (.iload 6, 2) := by decide +kernel
theorem dX8_droppedOf_86 : decode cX8_droppedOf 86 = .ok (.iload 4, 2) := by decide +kernel
theorem dX8_droppedOf_88 : decode cX8_droppedOf 88 = .ok (.if_icmp .le 10, 3) := by decide +kernel
theorem dX8_droppedOf_91 : decode cX8_droppedOf 91 = .ok (.iload 6, 2) := by decide +kernel
theorem dX8_droppedOf_93 : decode cX8_droppedOf 93 = .ok (.istore 4, 2) := by decide +kernel
theorem dX8_droppedOf_95 : decode cX8_droppedOf 95 = .ok (.iload 5, 2) := by decide +kernel
theorem dX8_droppedOf_97 : decode cX8_droppedOf 97 = .ok (.istore_n 3, 1) := by decide +kernel
theorem dX8_droppedOf_98 : decode cX8_droppedOf 98 = .ok (.iinc 5 1, 3) := by decide +kernel
theorem dX8_droppedOf_101 : decode cX8_droppedOf 101 = .ok (.goto (-81), 3) := by decide +kernel
theorem dX8_droppedOf_104 : decode cX8_droppedOf 104 = .ok (.iload_n 3, 1) := by decide +kernel
theorem dX8_droppedOf_105 : decode cX8_droppedOf 105 = .ok (.ireturn, 1) := by decide +kernel
theorem dX8_error_0 : decode cX8_error 0 = .ok (.aload_n 0, 1) := by decide +kernel
theorem dX8_error_1 : decode cX8_error 1 = .ok (.iload_n 1, 1) := by decide +kernel
theorem dX8_error_2 : decode cX8_error 2 = .ok (.invokevirtual 102, 3) := by decide +kernel
theorem dX8_error_5 : decode cX8_error 5 = .ok (.astore 4, 2) := by decide +kernel
theorem dX8_error_7 : decode cX8_error 7 = .ok (.aload 4, 2) := by decide +kernel
theorem dX8_error_9 : decode cX8_error 9 = .ok (.ifnull 17, 3) := by decide +kernel
theorem dX8_error_12 : decode cX8_error 12 = .ok (.iload_n 2, 1) := by decide +kernel
theorem dX8_error_13 : decode cX8_error 13 = .ok (.invokestatic 84, 3) := by decide +kernel
theorem dX8_error_16 : decode cX8_error 16 = .ok (.ifCond .eq 10, 3) := by decide +kernel
theorem dX8_error_19 : decode cX8_error 19 = .ok (.iload_n 3, 1) := by decide +kernel
theorem dX8_error_20 : decode cX8_error 20 = .ok (.invokestatic 125, 3) := by decide +kernel
theorem dX8_error_23 : decode cX8_error 23 = .ok (.ifCond .ne 6, 3) := by decide +kernel
theorem dX8_error_26 : decode cX8_error 26 = .ok (.ldc 110, 2) := by decide +kernel
theorem dX8_error_28 : decode cX8_error 28 = .ok (.ireturn, 1) := by decide +kernel
theorem dX8_error_29 : decode cX8_error 29 = .ok (.aload 4, 2) := by decide +kernel
theorem dX8_error_31 : decode cX8_error 31 = .ok (.iload_n 2, 1) := by decide +kernel
theorem dX8_error_32 : decode cX8_error 32 = .ok (.aload_n 0, 1) := by decide +kernel
theorem dX8_error_33 : decode cX8_error 33 = .ok (.getfield 37, 3) := by decide +kernel
theorem dX8_error_36 : decode cX8_error 36 = .ok (.iload_n 3, 1) := by decide +kernel
theorem dX8_error_37 : decode cX8_error 37 = .ok (.invokevirtual 128, 3) := by decide +kernel
theorem dX8_error_40 : decode cX8_error 40 = .ok (.ireturn, 1) := by decide +kernel
theorem dX8_feed_0 : decode cX8_feed 0 = .ok (.iload_n 1, 1) := by decide +kernel
theorem dX8_feed_1 : decode cX8_feed 1 = .ok (.iconst 1, 1) := by decide +kernel
theorem dX8_feed_2 : decode cX8_feed 2 = .ok (.if_icmp .lt 8, 3) := by decide +kernel
theorem dX8_feed_5 : decode cX8_feed 5 = .ok (.iload_n 1, 1) := by decide +kernel
theorem dX8_feed_6 : decode cX8_feed 6 = .ok (.iconst 4, 1) := by decide +kernel
theorem dX8_feed_7 : decode cX8_feed 7 = .ok (.if_icmp .le 5, 3) := by decide +kernel
theorem dX8_feed_10 : decode cX8_feed 10 = .ok (.iconst (-1), 1) := by decide +kernel
theorem dX8_feed_11 : decode cX8_feed 11 = .ok (.ireturn, 1) := by decide +kernel
theorem dX8_feed_12 : decode cX8_feed 12 = .ok (.aload_n 0, 1) := by decide +kernel
theorem dX8_feed_13 : decode cX8_feed 13 = .ok (.getfield 58, 3) := by decide +kernel
theorem dX8_feed_16 : decode cX8_feed 16 = .ok (.getfield 179, 3) := by decide +kernel
theorem dX8_feed_19 : decode cX8_feed 19 = .ok (.iload_n 1, 1) := by decide +kernel
theorem dX8_feed_20 : decode cX8_feed 20 = .ok (.iadd, 1) := by decide +kernel
theorem dX8_feed_21 : decode cX8_feed 21 = .ok (.bipush 120, 2) := by decide +kernel
theorem dX8_feed_23 : decode cX8_feed 23 = .ok (.if_icmp .le 6, 3) := by decide +kernel
theorem dX8_feed_26 : decode cX8_feed 26 = .ok (.bipush (-5), 2) := by decide +kernel
theorem dX8_feed_28 : decode cX8_feed 28 = .ok (.ireturn, 1) := by decide +kernel
theorem dX8_feed_29 : decode cX8_feed 29 = .ok (.iconst 0, 1) := by decide +kernel
theorem dX8_feed_30 : decode cX8_feed 30 = .ok (.istore_n 3, 1) := by decide +kernel
theorem dX8_feed_31 : decode cX8_feed 31 = .ok (.iload_n 3, 1) := by decide +kernel
theorem dX8_feed_32 : decode cX8_feed 32 = .ok (.iload_n 1, 1) := by decide +kernel
theorem dX8_feed_33 : decode cX8_feed 33 = .ok (.if_icmp .ge 26, 3) := by decide +kernel
theorem dX8_feed_36 : decode cX8_feed 36 = .ok (.aload_n 0, 1) := by decide +kernel
theorem dX8_feed_37 : decode cX8_feed 37 = .ok (.getfield 58, 3) := by decide +kernel
theorem dX8_feed_40 : decode cX8_feed 40 = .ok (.iload_n 2, 1) := by decide +kernel
theorem dX8_feed_41 : decode cX8_feed 41 = .ok (.bipush 8, 2) := by decide +kernel
theorem dX8_feed_43 : decode cX8_feed 43 = .ok (.iload_n 3, 1) := by decide +kernel
theorem dX8_feed_44 : decode cX8_feed 44 = .ok (.imul, 1) := by decide +kernel
theorem dX8_feed_45 : decode cX8_feed 45 = .ok (.ishr, 1) := by decide +kernel
theorem dX8_feed_46 : decode cX8_feed 46 = .ok (.sipush 255, 3) := by decide +kernel
theorem dX8_feed_49 : decode cX8_feed 49 = .ok (.iand, 1) := by decide +kernel
theorem dX8_feed_50 : decode cX8_feed 50 = .ok (.invokevirtual 180, 3) := by decide +kernel
theorem dX8_feed_53 : decode cX8_feed 53 = .ok (.iinc 3 1, 3) := by decide +kernel
theorem dX8_feed_56 : decode cX8_feed 56 = .ok (.goto (-25), 3) := by decide +kernel
theorem dX8_feed_59 : decode cX8_feed 59 = .ok (.aload_n 0, 1) := by decide +kernel
theorem dX8_feed_60 : decode cX8_feed 60 = .ok (.getfield 58, 3) := by decide +kernel
theorem dX8_feed_63 : decode cX8_feed 63 = .ok (.getfield 179, 3) := by decide +kernel
theorem dX8_feed_66 : decode cX8_feed 66 = .ok (.ireturn, 1) := by decide +kernel
theorem dX8_firstLack_0 : decode cX8_firstLack 0 = .ok (.aload_n 0, 1) := by decide +kernel
theorem dX8_firstLack_1 : decode cX8_firstLack 1 = .ok (.iload_n 1, 1) := by decide +kernel
theorem dX8_firstLack_2 : decode cX8_firstLack 2 = .ok (.invokevirtual 102, 3) := by decide +kernel
theorem dX8_firstLack_5 : decode cX8_firstLack 5 = .ok (.ifnonnull 9, 3) := by decide +kernel
theorem dX8_firstLack_8 : decode cX8_firstLack 8 = .ok (.aload_n 0, 1) := by decide +kernel
theorem dX8_firstLack_9 : decode cX8_firstLack 9 = .ok (.iload_n 1, 1) := by decide +kernel
theorem dX8_firstLack_10 : decode cX8_firstLack 10 = .ok (.invokevirtual 115, 3) := by decide +kernel
theorem dX8_firstLack_13 : decode cX8_firstLack 13 = .ok (.ireturn, 1) := by decide +kernel
theorem dX8_firstLack_14 : decode cX8_firstLack 14 = .ok (.aload_n 0, 1) := by decide +kernel
theorem dX8_firstLack_15 : decode cX8_firstLack 15 = .ok (.iload_n 2, 1) := by decide +kernel
theorem dX8_firstLack_16 : decode cX8_firstLack 16 = .ok (.invokevirtual 102, 3) := by decide +kernel
theorem dX8_firstLack_19 : decode cX8_firstLack 19 = .ok (.ifnonnull 9, 3) := by decide +kernel
theorem dX8_firstLack_22 : decode cX8_firstLack 22 = .ok (.aload_n 0, 1) := by decide +kernel
theorem dX8_firstLack_23 : decode cX8_firstLack 23 = .ok (.iload_n 2, 1) := by decide +kernel
theorem dX8_firstLack_24 : decode cX8_firstLack 24 = .ok (.invokevirtual 115, 3) := by decide +kernel
theorem dX8_firstLack_27 : decode cX8_firstLack 27 = .ok (.ireturn, 1) := by decide +kernel
theorem dX8_firstLack_28 : decode cX8_firstLack 28 = .ok (.aload_n 0, 1) := by decide +kernel
theorem dX8_firstLack_29 : decode cX8_firstLack 29 = .ok (.iload_n 3, 1) := by decide +kernel
theorem dX8_firstLack_30 : decode cX8_firstLack 30 = .ok (.invokevirtual 102, 3) := by decide +kernel
theorem dX8_firstLack_33 : decode cX8_firstLack 33 = .ok (.ifnonnull 11, 3) := by decide +kernel
theorem dX8_firstLack_36 : decode cX8_firstLack 36 = .ok (.aload_n 0, 1) := by decide +kernel
theorem dX8_firstLack_37 : decode cX8_firstLack 37 = .ok (.iload_n 3, 1) := by decide +kernel
theorem dX8_firstLack_38 : decode cX8_firstLack 38 = .ok (.invokevirtual 115, 3) := by decide +kernel
theorem dX8_firstLack_41 : decode cX8_firstLack 41 = .ok (.goto 4, 3) := by decide +kernel
theorem dX8_firstLack_44 : decode cX8_firstLack 44 = .ok (.iconst 0, 1) := by decide +kernel
theorem dX8_firstLack_45 : decode cX8_firstLack 45 = .ok (.ireturn, 1) := by decide +kernel
theorem dX8_fitLaw_0 : decode cX8_fitLaw 0 = .ok (.aload_n 0, 1) := by decide +kernel
theorem dX8_fitLaw_1 : decode cX8_fitLaw 1 = .ok (.getfield 51, 3) := by decide +kernel
theorem dX8_fitLaw_4 : decode cX8_fitLaw 4 = .ok (.invokevirtual 308, 3) := by decide +kernel
theorem dX8_fitLaw_7 : decode cX8_fitLaw 7 = .ok (.aload_n 0, 1) := by decide +kernel
theorem dX8_fitLaw_8 : decode cX8_fitLaw 8 = .ok (.iload_n 1, 1) := by decide +kernel
theorem dX8_fitLaw_9 : decode cX8_fitLaw 9 = .ok (.invokevirtual 102, 3) := by decide +kernel
theorem dX8_fitLaw_12 : decode cX8_fitLaw 12 = .ok (.astore 4, 2) := by decide +kernel
theorem dX8_fitLaw_14 : decode cX8_fitLaw 14 = .ok (.aload 4, 2) := by decide +kernel
theorem dX8_fitLaw_16 : decode cX8_fitLaw 16 = .ok (.ifnonnull 4, 3) := by decide +kernel
theorem dX8_fitLaw_19 : decode cX8_fitLaw 19 = .ok (.return_, 1) := by decide +kernel
theorem dX8_fitLaw_20 : decode cX8_fitLaw 20 = .ok (.aload_n 0, 1) := by decide +kernel
theorem dX8_fitLaw_21 : decode cX8_fitLaw 21 = .ok (.getfield 44, 3) := by decide +kernel
theorem dX8_fitLaw_24 : decode cX8_fitLaw 24 = .ok (.aload 4, 2) := by decide +kernel
theorem dX8_fitLaw_26 : decode cX8_fitLaw 26 = .ok (.aload_n 0, 1) := by decide +kernel
theorem dX8_fitLaw_27 : decode cX8_fitLaw 27 = .ok (.getfield 37, 3) := by decide +kernel
theorem dX8_fitLaw_30 : decode cX8_fitLaw 30 = .ok (.iload_n 2, 1) := by decide +kernel
theorem dX8_fitLaw_31 : decode cX8_fitLaw 31 = .ok (.iload_n 3, 1) := by decide +kernel
theorem dX8_fitLaw_32 : decode cX8_fitLaw 32 = .ok (.invokevirtual 172, 3) := by decide +kernel
theorem dX8_fitLaw_35 : decode cX8_fitLaw 35 = .ok (.iconst 0, 1) := by decide +kernel
theorem dX8_fitLaw_36 : decode cX8_fitLaw 36 = .ok (.istore 5, 2) := by decide +kernel
theorem dX8_fitLaw_38 : decode cX8_fitLaw 38 = .ok (.iload 5, 2) := by decide +kernel
theorem dX8_fitLaw_40 : decode cX8_fitLaw 40 = .ok (.aload_n 0, 1) := by decide +kernel
theorem dX8_fitLaw_41 : decode cX8_fitLaw 41 = .ok (.getfield 44, 3) := by decide +kernel
theorem dX8_fitLaw_44 : decode cX8_fitLaw 44 = .ok (.getfield 311, 3) := by decide +kernel
theorem dX8_fitLaw_47 : decode cX8_fitLaw 47 = .ok (.if_icmp .ge 66, 3) := by decide +kernel
theorem dX8_fitLaw_50 : decode cX8_fitLaw 50 = .ok (.aload_n 0, 1) := by decide +kernel
theorem dX8_fitLaw_51 : decode cX8_fitLaw 51 = .ok (.getfield 44, 3) := by decide +kernel
theorem dX8_fitLaw_54 : decode cX8_fitLaw 54 = .ok (.getfield 312, 3) := by decide +kernel
theorem dX8_fitLaw_57 : decode cX8_fitLaw 57 = .ok (.iload 5, 2) := by decide +kernel
theorem dX8_fitLaw_59 : decode cX8_fitLaw 59 = .ok (.iaload, 1) := by decide +kernel
theorem dX8_fitLaw_60 : decode cX8_fitLaw 60 = .ok (.istore 6, 2) := by decide +kernel
theorem dX8_fitLaw_62 : decode cX8_fitLaw 62 = .ok (.aload_n 0, 1) := by decide +kernel
theorem dX8_fitLaw_63 : decode cX8_fitLaw 63 = .ok (.iload_n 1, 1) := by decide +kernel
theorem dX8_fitLaw_64 : decode cX8_fitLaw 64 = .ok (.iload 6, 2) := by decide +kernel
theorem dX8_fitLaw_66 : decode cX8_fitLaw 66 = .ok (.invokevirtual 315, 3) := by decide +kernel
theorem dX8_fitLaw_69 : decode cX8_fitLaw 69 = .ok (.istore 7, 2) := by decide +kernel
theorem dX8_fitLaw_71 : decode cX8_fitLaw 71 = .ok (.iload 7, 2) := by decide +kernel
theorem dX8_fitLaw_73 : decode cX8_fitLaw 73 = .ok (.bipush (-100), 2) := by decide +kernel
theorem dX8_fitLaw_75 : decode cX8_fitLaw 75 = .ok (.if_icmp .eq 32, 3) := by decide +kernel
theorem dX8_fitLaw_78 : decode cX8_fitLaw 78 = .ok (.aload_n 0, 1) := by decide +kernel
theorem dX8_fitLaw_79 : decode cX8_fitLaw 79 = .ok (.getfield 51, 3) := by decide +kernel
theorem dX8_fitLaw_82 : decode cX8_fitLaw 82 = .ok (.aload_n 0, 1) := by decide +kernel
theorem dX8_fitLaw_83 : decode cX8_fitLaw 83 = .ok (.getfield 44, 3) := by decide +kernel
theorem dX8_fitLaw_86 : decode cX8_fitLaw 86 = .ok (.getfield 318, 3) := by decide +kernel
theorem dX8_fitLaw_89 : decode cX8_fitLaw 89 = .ok (.iload 5, 2) := by decide +kernel
theorem dX8_fitLaw_91 : decode cX8_fitLaw 91 = .ok (.iaload, 1) := by decide +kernel
theorem dX8_fitLaw_92 : decode cX8_fitLaw 92 = .ok (.i2l, 1) := by decide +kernel
theorem dX8_fitLaw_93 : decode cX8_fitLaw 93 = .ok (.iload 7, 2) := by decide +kernel
theorem dX8_fitLaw_95 : decode cX8_fitLaw 95 = .ok (.i2l, 1) := by decide +kernel
theorem dX8_fitLaw_96 : decode cX8_fitLaw 96 = .ok (.aload 4, 2) := by decide +kernel
theorem dX8_fitLaw_98 : decode cX8_fitLaw 98 = .ok (.iload 6, 2) := by decide +kernel
theorem dX8_fitLaw_100 : decode cX8_fitLaw 100 = .ok (.invokevirtual 139, 3) := by decide +kernel
theorem dX8_fitLaw_103 : decode cX8_fitLaw 103 = .ok (.i2l, 1) := by decide +kernel
theorem dX8_fitLaw_104 : decode cX8_fitLaw 104 = .ok (.invokevirtual 321, 3) := by decide +kernel
theorem dX8_fitLaw_107 : decode cX8_fitLaw 107 = .ok (.iinc 5 1, 3) := by decide +kernel
theorem dX8_fitLaw_110 : decode cX8_fitLaw 110 = .ok (.goto (-72), 3) := by decide +kernel
theorem dX8_fitLaw_113 : decode cX8_fitLaw 113 = .ok (.aload_n 0, 1) := by decide +kernel
theorem dX8_fitLaw_114 : decode cX8_fitLaw 114 = .ok (.getfield 51, 3) := by decide +kernel
theorem dX8_fitLaw_117 : decode cX8_fitLaw 117 = .ok (.invokevirtual 324, 3) := by decide +kernel
theorem dX8_fitLaw_120 : decode cX8_fitLaw 120 = .ok (.return_, 1) := by decide +kernel
theorem dX8_foretold_0 : decode cX8_foretold 0 = .ok (.aload_n 0, 1) := by decide +kernel
theorem dX8_foretold_1 : decode cX8_foretold 1 = .ok (.iload_n 1, 1) := by decide +kernel
theorem dX8_foretold_2 : decode cX8_foretold 2 = .ok (.iload_n 2, 1) := by decide +kernel
theorem dX8_foretold_3 : decode cX8_foretold 3 = .ok (.iload_n 3, 1) := by decide +kernel
theorem dX8_foretold_4 : decode cX8_foretold 4 = .ok (.invokevirtual 152, 3) := by decide +kernel
theorem dX8_foretold_7 : decode cX8_foretold 7 = .ok (.ifCond .ne 21, 3) := by decide +kernel
theorem dX8_foretold_10 : decode cX8_foretold 10 = .ok (.iload 4, 2) := by decide +kernel
theorem dX8_foretold_12 : decode cX8_foretold 12 = .ok (.bipush 50, 2) := by decide +kernel
theorem dX8_foretold_14 : decode cX8_foretold 14 = .ok (.invokestatic 88, 3) := by decide +kernel
theorem dX8_foretold_17 : decode cX8_foretold 17 = .ok (.ifCond .eq 11, 3) := by decide +kernel
theorem dX8_foretold_20 : decode cX8_foretold 20 = .ok (.iload 5, 2) := by decide +kernel
theorem dX8_foretold_22 : decode cX8_foretold 22 = .ok (.invokestatic 84, 3) := by decide +kernel
theorem dX8_foretold_25 : decode cX8_foretold 25 = .ok (.ifCond .ne 6, 3) := by decide +kernel
theorem dX8_foretold_28 : decode cX8_foretold 28 = .ok (.ldc 110, 2) := by decide +kernel
theorem dX8_foretold_30 : decode cX8_foretold 30 = .ok (.ireturn, 1) := by decide +kernel
theorem dX8_foretold_31 : decode cX8_foretold 31 = .ok (.aload_n 0, 1) := by decide +kernel
theorem dX8_foretold_32 : decode cX8_foretold 32 = .ok (.iload_n 1, 1) := by decide +kernel
theorem dX8_foretold_33 : decode cX8_foretold 33 = .ok (.iload_n 2, 1) := by decide +kernel
theorem dX8_foretold_34 : decode cX8_foretold 34 = .ok (.iload_n 3, 1) := by decide +kernel
theorem dX8_foretold_35 : decode cX8_foretold 35 = .ok (.invokevirtual 155, 3) := by decide +kernel
theorem dX8_foretold_38 : decode cX8_foretold 38 = .ok (.aload_n 0, 1) := by decide +kernel
theorem dX8_foretold_39 : decode cX8_foretold 39 = .ok (.getfield 51, 3) := by decide +kernel
theorem dX8_foretold_42 : decode cX8_foretold 42 = .ok (.invokevirtual 158, 3) := by decide +kernel
theorem dX8_foretold_45 : decode cX8_foretold 45 = .ok (.ifCond .ne 6, 3) := by decide +kernel
theorem dX8_foretold_48 : decode cX8_foretold 48 = .ok (.ldc 110, 2) := by decide +kernel
theorem dX8_foretold_50 : decode cX8_foretold 50 = .ok (.ireturn, 1) := by decide +kernel
theorem dX8_foretold_51 : decode cX8_foretold 51 = .ok (.aload_n 0, 1) := by decide +kernel
theorem dX8_foretold_52 : decode cX8_foretold 52 = .ok (.getfield 51, 3) := by decide +kernel
theorem dX8_foretold_55 : decode cX8_foretold 55 = .ok (.iload 4, 2) := by decide +kernel
theorem dX8_foretold_57 : decode cX8_foretold 57 = .ok (.iload 5, 2) := by decide +kernel
theorem dX8_foretold_59 : decode cX8_foretold 59 = .ok (.invokevirtual 164, 3) := by decide +kernel
theorem dX8_foretold_62 : decode cX8_foretold 62 = .ok (.lstore 6, 2) := by decide +kernel
theorem dX8_foretold_64 : decode cX8_foretold 64 = .ok (.lload 6, 2) := by decide +kernel
theorem dX8_foretold_66 : decode cX8_foretold 66 = .ok (.ldc2_w 168, 3) := by decide +kernel
theorem dX8_foretold_69 : decode cX8_foretold 69 = .ok (.lcmp, 1) := by decide +kernel
theorem dX8_foretold_70 : decode cX8_foretold 70 = .ok (.ifCond .gt 12, 3) := by decide +kernel
theorem dX8_foretold_73 : decode cX8_foretold 73 = .ok (.lload 6, 2) := by decide +kernel
theorem dX8_foretold_75 : decode cX8_foretold 75 = .ok (.ldc2_w 170, 3) := by decide +kernel
theorem dX8_foretold_78 : decode cX8_foretold 78 = .ok (.lcmp, 1) := by decide +kernel
theorem dX8_foretold_79 : decode cX8_foretold 79 = .ok (.ifCond .ge 6, 3) := by decide +kernel
theorem dX8_foretold_82 : decode cX8_foretold 82 = .ok (.ldc 110, 2) := by decide +kernel
theorem dX8_foretold_84 : decode cX8_foretold 84 = .ok (.ireturn, 1) := by decide +kernel
theorem dX8_foretold_85 : decode cX8_foretold 85 = .ok (.lload 6, 2) := by decide +kernel
theorem dX8_foretold_87 : decode cX8_foretold 87 = .ok (.l2i, 1) := by decide +kernel
theorem dX8_foretold_88 : decode cX8_foretold 88 = .ok (.ireturn, 1) := by decide +kernel
theorem dX8_gatherBeforeSailing_0 : decode cX8_gatherBeforeSailing 0 = .ok (.aload_n 0, 1) := by decide +kernel
theorem dX8_gatherBeforeSailing_1 : decode cX8_gatherBeforeSailing 1 = .ok (.getfield 44, 3) := by decide +kernel
theorem dX8_gatherBeforeSailing_4 : decode cX8_gatherBeforeSailing 4 = .ok (.aload_n 1, 1) := by decide +kernel
theorem dX8_gatherBeforeSailing_5 : decode cX8_gatherBeforeSailing 5 = .ok (.aload_n 0, 1) := by decide +kernel
theorem dX8_gatherBeforeSailing_6 : decode cX8_gatherBeforeSailing 6 = .ok (.getfield 37, 3) := by decide +kernel
theorem dX8_gatherBeforeSailing_9 : decode cX8_gatherBeforeSailing 9 = .ok (.iconst 0, 1) := by decide +kernel
theorem dX8_gatherBeforeSailing_10 : decode cX8_gatherBeforeSailing 10 = .ok (.aload_n 0, 1) := by decide +kernel
theorem dX8_gatherBeforeSailing_11 : decode cX8_gatherBeforeSailing 11 = .ok (.getfield 79, 3) := by decide +kernel
theorem dX8_gatherBeforeSailing_14 : decode cX8_gatherBeforeSailing 14 = .ok (.bipush 30, 2) := by decide +kernel
theorem dX8_gatherBeforeSailing_16 : decode cX8_gatherBeforeSailing 16 = .ok (.isub, 1) := by decide +kernel
theorem dX8_gatherBeforeSailing_17 : decode cX8_gatherBeforeSailing 17 = .ok (.invokestatic 355, 3) := by decide +kernel
theorem dX8_gatherBeforeSailing_20 : decode cX8_gatherBeforeSailing 20 = .ok (.aload_n 0, 1) := by decide +kernel
theorem dX8_gatherBeforeSailing_21 : decode cX8_gatherBeforeSailing 21 = .ok (.getfield 79, 3) := by decide +kernel
theorem dX8_gatherBeforeSailing_24 : decode cX8_gatherBeforeSailing 24 = .ok (.invokevirtual 172, 3) := by decide +kernel
theorem dX8_gatherBeforeSailing_27 : decode cX8_gatherBeforeSailing 27 = .ok (.return_, 1) := by decide +kernel
theorem dX8_hasTrial_0 : decode cX8_hasTrial 0 = .ok (.aload_n 0, 1) := by decide +kernel
theorem dX8_hasTrial_1 : decode cX8_hasTrial 1 = .ok (.iload_n 1, 1) := by decide +kernel
theorem dX8_hasTrial_2 : decode cX8_hasTrial 2 = .ok (.invokevirtual 102, 3) := by decide +kernel
theorem dX8_hasTrial_5 : decode cX8_hasTrial 5 = .ok (.astore 4, 2) := by decide +kernel
theorem dX8_hasTrial_7 : decode cX8_hasTrial 7 = .ok (.aload 4, 2) := by decide +kernel
theorem dX8_hasTrial_9 : decode cX8_hasTrial 9 = .ok (.ifnull 13, 3) := by decide +kernel
theorem dX8_hasTrial_12 : decode cX8_hasTrial 12 = .ok (.aload_n 0, 1) := by decide +kernel
theorem dX8_hasTrial_13 : decode cX8_hasTrial 13 = .ok (.getfield 72, 3) := by decide +kernel
theorem dX8_hasTrial_16 : decode cX8_hasTrial 16 = .ok (.getfield 327, 3) := by decide +kernel
theorem dX8_hasTrial_19 : decode cX8_hasTrial 19 = .ok (.ifCond .ne 5, 3) := by decide +kernel
theorem dX8_hasTrial_22 : decode cX8_hasTrial 22 = .ok (.iconst 0, 1) := by decide +kernel
theorem dX8_hasTrial_23 : decode cX8_hasTrial 23 = .ok (.ireturn, 1) := by decide +kernel
theorem dX8_hasTrial_24 : decode cX8_hasTrial 24 = .ok (.aload_n 0, 1) := by decide +kernel
theorem dX8_hasTrial_25 : decode cX8_hasTrial 25 = .ok (.getfield 44, 3) := by decide +kernel
theorem dX8_hasTrial_28 : decode cX8_hasTrial 28 = .ok (.aload 4, 2) := by decide +kernel
theorem dX8_hasTrial_30 : decode cX8_hasTrial 30 = .ok (.aload_n 0, 1) := by decide +kernel
theorem dX8_hasTrial_31 : decode cX8_hasTrial 31 = .ok (.getfield 37, 3) := by decide +kernel
theorem dX8_hasTrial_34 : decode cX8_hasTrial 34 = .ok (.iload_n 2, 1) := by decide +kernel
theorem dX8_hasTrial_35 : decode cX8_hasTrial 35 = .ok (.iload_n 3, 1) := by decide +kernel
theorem dX8_hasTrial_36 : decode cX8_hasTrial 36 = .ok (.invokevirtual 172, 3) := by decide +kernel
theorem dX8_hasTrial_39 : decode cX8_hasTrial 39 = .ok (.aload_n 0, 1) := by decide +kernel
theorem dX8_hasTrial_40 : decode cX8_hasTrial 40 = .ok (.getfield 44, 3) := by decide +kernel
theorem dX8_hasTrial_43 : decode cX8_hasTrial 43 = .ok (.getfield 311, 3) := by decide +kernel
theorem dX8_hasTrial_46 : decode cX8_hasTrial 46 = .ok (.ifCond .le 7, 3) := by decide +kernel
theorem dX8_hasTrial_49 : decode cX8_hasTrial 49 = .ok (.iconst 1, 1) := by decide +kernel
theorem dX8_hasTrial_50 : decode cX8_hasTrial 50 = .ok (.goto 4, 3) := by decide +kernel
theorem dX8_hasTrial_53 : decode cX8_hasTrial 53 = .ok (.iconst 0, 1) := by decide +kernel
theorem dX8_hasTrial_54 : decode cX8_hasTrial 54 = .ok (.ireturn, 1) := by decide +kernel
theorem dX8_holder_0 : decode cX8_holder 0 = .ok (.aload_n 0, 1) := by decide +kernel
theorem dX8_holder_1 : decode cX8_holder 1 = .ok (.iload_n 1, 1) := by decide +kernel
theorem dX8_holder_2 : decode cX8_holder 2 = .ok (.invokevirtual 102, 3) := by decide +kernel
theorem dX8_holder_5 : decode cX8_holder 5 = .ok (.astore_n 3, 1) := by decide +kernel
theorem dX8_holder_6 : decode cX8_holder 6 = .ok (.aload_n 3, 1) := by decide +kernel
theorem dX8_holder_7 : decode cX8_holder 7 = .ok (.ifnull 11, 3) := by decide +kernel
theorem dX8_holder_10 : decode cX8_holder 10 = .ok (.aload_n 0, 1) := by decide +kernel
theorem dX8_holder_11 : decode cX8_holder 11 = .ok (.iload_n 2, 1) := by decide +kernel
theorem dX8_holder_12 : decode cX8_holder 12 = .ok (.invokevirtual 111, 3) := by decide +kernel
theorem dX8_holder_15 : decode cX8_holder 15 = .ok (.ifCond .ne 8, 3) := by decide +kernel
theorem dX8_holder_18 : decode cX8_holder 18 = .ok (.ldc 110, 2) := by decide +kernel
theorem dX8_holder_20 : decode cX8_holder 20 = .ok (.goto 8, 3) := by decide +kernel
theorem dX8_holder_23 : decode cX8_holder 23 = .ok (.aload_n 3, 1) := by decide +kernel
theorem dX8_holder_24 : decode cX8_holder 24 = .ok (.iload_n 2, 1) := by decide +kernel
theorem dX8_holder_25 : decode cX8_holder 25 = .ok (.invokevirtual 106, 3) := by decide +kernel
theorem dX8_holder_28 : decode cX8_holder 28 = .ok (.ireturn, 1) := by decide +kernel
theorem dX8_holds_0 : decode cX8_holds 0 = .ok (.iload_n 1, 1) := by decide +kernel
theorem dX8_holds_1 : decode cX8_holds 1 = .ok (.invokestatic 92, 3) := by decide +kernel
theorem dX8_holds_4 : decode cX8_holds 4 = .ok (.ifCond .eq 12, 3) := by decide +kernel
theorem dX8_holds_7 : decode cX8_holds 7 = .ok (.aload_n 0, 1) := by decide +kernel
theorem dX8_holds_8 : decode cX8_holds 8 = .ok (.getfield 13, 3) := by decide +kernel
theorem dX8_holds_11 : decode cX8_holds 11 = .ok (.iload_n 1, 1) := by decide +kernel
theorem dX8_holds_12 : decode cX8_holds 12 = .ok (.iaload, 1) := by decide +kernel
theorem dX8_holds_13 : decode cX8_holds 13 = .ok (.goto 4, 3) := by decide +kernel
theorem dX8_holds_16 : decode cX8_holds 16 = .ok (.iconst (-1), 1) := by decide +kernel
theorem dX8_holds_17 : decode cX8_holds 17 = .ok (.ireturn, 1) := by decide +kernel
theorem dX8_home_0 : decode cX8_home 0 = .ok (.iload_n 1, 1) := by decide +kernel
theorem dX8_home_1 : decode cX8_home 1 = .ok (.invokestatic 92, 3) := by decide +kernel
theorem dX8_home_4 : decode cX8_home 4 = .ok (.ifCond .ne 5, 3) := by decide +kernel
theorem dX8_home_7 : decode cX8_home 7 = .ok (.iconst (-1), 1) := by decide +kernel
theorem dX8_home_8 : decode cX8_home 8 = .ok (.ireturn, 1) := by decide +kernel
theorem dX8_home_9 : decode cX8_home 9 = .ok (.aload_n 0, 1) := by decide +kernel
theorem dX8_home_10 : decode cX8_home 10 = .ok (.iload_n 1, 1) := by decide +kernel
theorem dX8_home_11 : decode cX8_home 11 = .ok (.invokevirtual 102, 3) := by decide +kernel
theorem dX8_home_14 : decode cX8_home 14 = .ok (.astore_n 2, 1) := by decide +kernel
theorem dX8_home_15 : decode cX8_home 15 = .ok (.aload_n 2, 1) := by decide +kernel
theorem dX8_home_16 : decode cX8_home 16 = .ok (.ifnonnull 9, 3) := by decide +kernel
theorem dX8_home_19 : decode cX8_home 19 = .ok (.aload_n 0, 1) := by decide +kernel
theorem dX8_home_20 : decode cX8_home 20 = .ok (.iload_n 1, 1) := by decide +kernel
theorem dX8_home_21 : decode cX8_home 21 = .ok (.invokevirtual 115, 3) := by decide +kernel
theorem dX8_home_24 : decode cX8_home 24 = .ok (.ireturn, 1) := by decide +kernel
theorem dX8_home_25 : decode cX8_home 25 = .ok (.aload_n 2, 1) := by decide +kernel
theorem dX8_home_26 : decode cX8_home 26 = .ok (.aload_n 0, 1) := by decide +kernel
theorem dX8_home_27 : decode cX8_home 27 = .ok (.getfield 79, 3) := by decide +kernel
theorem dX8_home_30 : decode cX8_home 30 = .ok (.invokevirtual 106, 3) := by decide +kernel
theorem dX8_home_33 : decode cX8_home 33 = .ok (.istore_n 3, 1) := by decide +kernel
theorem dX8_home_34 : decode cX8_home 34 = .ok (.iload_n 3, 1) := by decide +kernel
theorem dX8_home_35 : decode cX8_home 35 = .ok (.ifCond .lt 9, 3) := by decide +kernel
theorem dX8_home_38 : decode cX8_home 38 = .ok (.iload_n 3, 1) := by decide +kernel
theorem dX8_home_39 : decode cX8_home 39 = .ok (.bipush 20, 2) := by decide +kernel
theorem dX8_home_41 : decode cX8_home 41 = .ok (.if_icmp .lt 6, 3) := by decide +kernel
theorem dX8_home_44 : decode cX8_home 44 = .ok (.bipush (-4), 2) := by decide +kernel
theorem dX8_home_46 : decode cX8_home 46 = .ok (.ireturn, 1) := by decide +kernel
theorem dX8_home_47 : decode cX8_home 47 = .ok (.aload_n 2, 1) := by decide +kernel
theorem dX8_home_48 : decode cX8_home 48 = .ok (.iconst (-1), 1) := by decide +kernel
theorem dX8_home_49 : decode cX8_home 49 = .ok (.aload_n 0, 1) := by decide +kernel
theorem dX8_home_50 : decode cX8_home 50 = .ok (.getfield 79, 3) := by decide +kernel
theorem dX8_home_53 : decode cX8_home 53 = .ok (.invokevirtual 288, 3) := by decide +kernel
theorem dX8_home_56 : decode cX8_home 56 = .ok (.iconst 1, 1) := by decide +kernel
theorem dX8_home_57 : decode cX8_home 57 = .ok (.ireturn, 1) := by decide +kernel
theorem dX8_init_0 : decode cX8_init 0 = .ok (.aload_n 0, 1) := by decide +kernel
theorem dX8_init_1 : decode cX8_init 1 = .ok (.invokespecial 1, 3) := by decide +kernel
theorem dX8_init_4 : decode cX8_init 4 = .ok (.aload_n 0, 1) := by decide +kernel
theorem dX8_init_5 : decode cX8_init 5 = .ok (.sipush 400, 3) := by decide +kernel
theorem dX8_init_8 : decode cX8_init 8 = .ok (.newarray .int, 2) := by decide +kernel
theorem dX8_init_10 : decode cX8_init 10 = .ok (.putfield 9, 3) := by decide +kernel
theorem dX8_init_13 : decode cX8_init 13 = .ok (.aload_n 0, 1) := by decide +kernel
theorem dX8_init_14 : decode cX8_init 14 = .ok (.bipush 16, 2) := by decide +kernel
theorem dX8_init_16 : decode cX8_init 16 = .ok (.newarray .int, 2) := by decide +kernel
theorem dX8_init_18 : decode cX8_init 18 = .ok (.putfield 13, 3) := by decide +kernel
theorem dX8_init_21 : decode cX8_init 21 = .ok (.aload_n 0, 1) := by decide +kernel
theorem dX8_init_22 : decode cX8_init 22 = .ok (.bipush 16, 2) := by decide +kernel
theorem dX8_init_24 : decode cX8_init 24 = .ok (.newarray .int, 2) := by decide +kernel
theorem dX8_init_26 : decode cX8_init 26 = .ok (.putfield 16, 3) := by decide +kernel
theorem dX8_init_29 : decode cX8_init 29 = .ok (.aload_n 0, 1) := by decide +kernel
theorem dX8_init_30 : decode cX8_init 30 = .ok (.bipush 16, 2) := by decide +kernel
theorem dX8_init_32 : decode cX8_init 32 = .ok (.anewarray 19, 3) := by decide +kernel
theorem dX8_init_35 : decode cX8_init 35 = .ok (.putfield 21, 3) := by decide +kernel
theorem dX8_init_38 : decode cX8_init 38 = .ok (.aload_n 0, 1) := by decide +kernel
theorem dX8_init_39 : decode cX8_init 39 = .ok (.iconst 5, 1) := by decide +kernel
theorem dX8_init_40 : decode cX8_init 40 = .ok (.anewarray 25, 3) := by decide +kernel
theorem dX8_init_43 : decode cX8_init 43 = .ok (.putfield 27, 3) := by decide +kernel
theorem dX8_init_46 : decode cX8_init 46 = .ok (.aload_n 0, 1) := by decide +kernel
theorem dX8_init_47 : decode cX8_init 47 = .ok (.bipush 9, 2) := by decide +kernel
theorem dX8_init_49 : decode cX8_init 49 = .ok (.newarray .int, 2) := by decide +kernel
theorem dX8_init_51 : decode cX8_init 51 = .ok (.putfield 31, 3) := by decide +kernel
theorem dX8_init_54 : decode cX8_init 54 = .ok (.aload_n 0, 1) := by decide +kernel
theorem dX8_init_55 : decode cX8_init 55 = .ok (.new 34, 3) := by decide +kernel
theorem dX8_init_58 : decode cX8_init 58 = .ok (.dup, 1) := by decide +kernel
theorem dX8_init_59 : decode cX8_init 59 = .ok (.invokespecial 36, 3) := by decide +kernel
theorem dX8_init_62 : decode cX8_init 62 = .ok (.putfield 37, 3) := by decide +kernel
theorem dX8_init_65 : decode cX8_init 65 = .ok (.aload_n 0, 1) := by decide +kernel
theorem dX8_init_66 : decode cX8_init 66 = .ok (.new 41, 3) := by decide +kernel
theorem dX8_init_69 : decode cX8_init 69 = .ok (.dup, 1) := by decide +kernel
theorem dX8_init_70 : decode cX8_init 70 = .ok (.invokespecial 43, 3) := by decide +kernel
theorem dX8_init_73 : decode cX8_init 73 = .ok (.putfield 44, 3) := by decide +kernel
theorem dX8_init_76 : decode cX8_init 76 = .ok (.aload_n 0, 1) := by decide +kernel
theorem dX8_init_77 : decode cX8_init 77 = .ok (.new 48, 3) := by decide +kernel
theorem dX8_init_80 : decode cX8_init 80 = .ok (.dup, 1) := by decide +kernel
theorem dX8_init_81 : decode cX8_init 81 = .ok (.invokespecial 50, 3) := by decide +kernel
theorem dX8_init_84 : decode cX8_init 84 = .ok (.putfield 51, 3) := by decide +kernel
theorem dX8_init_87 : decode cX8_init 87 = .ok (.aload_n 0, 1) := by decide +kernel
theorem dX8_init_88 : decode cX8_init 88 = .ok (.new 55, 3) := by decide +kernel
theorem dX8_init_91 : decode cX8_init 91 = .ok (.dup, 1) := by decide +kernel
theorem dX8_init_92 : decode cX8_init 92 = .ok (.invokespecial 57, 3) := by decide +kernel
theorem dX8_init_95 : decode cX8_init 95 = .ok (.putfield 58, 3) := by decide +kernel
theorem dX8_init_98 : decode cX8_init 98 = .ok (.aload_n 0, 1) := by decide +kernel
theorem dX8_init_99 : decode cX8_init 99 = .ok (.new 62, 3) := by decide +kernel
theorem dX8_init_102 : decode cX8_init 102 = .ok (.dup, 1) := by decide +kernel
theorem dX8_init_103 : decode cX8_init 103 = .ok (.invokespecial 64, 3) := by decide +kernel
theorem dX8_init_106 : decode cX8_init 106 = .ok (.putfield 65, 3) := by decide +kernel
theorem dX8_init_109 : decode cX8_init 109 = .ok (.aload_n 0, 1) := by decide +kernel
theorem dX8_init_110 : decode cX8_init 110 = .ok (.new 69, 3) := by decide +kernel
theorem dX8_init_113 : decode cX8_init 113 = .ok (.dup, 1) := by decide +kernel
theorem dX8_init_114 : decode cX8_init 114 = .ok (.invokespecial 71, 3) := by decide +kernel
theorem dX8_init_117 : decode cX8_init 117 = .ok (.putfield 72, 3) := by decide +kernel
theorem dX8_init_120 : decode cX8_init 120 = .ok (.aload_n 0, 1) := by decide +kernel
theorem dX8_init_121 : decode cX8_init 121 = .ok (.new 69, 3) := by decide +kernel
theorem dX8_init_124 : decode cX8_init 124 = .ok (.dup, 1) := by decide +kernel
theorem dX8_init_125 : decode cX8_init 125 = .ok (.invokespecial 71, 3) := by decide +kernel
theorem dX8_init_128 : decode cX8_init 128 = .ok (.putfield 76, 3) := by decide +kernel
theorem dX8_init_131 : decode cX8_init 131 = .ok (.aload_n 0, 1) := by decide +kernel
theorem dX8_init_132 : decode cX8_init 132 = .ok (.iconst 0, 1) := by decide +kernel
theorem dX8_init_133 : decode cX8_init 133 = .ok (.putfield 79, 3) := by decide +kernel
theorem dX8_init_136 : decode cX8_init 136 = .ok (.iconst 0, 1) := by decide +kernel
theorem dX8_init_137 : decode cX8_init 137 = .ok (.istore_n 1, 1) := by decide +kernel
theorem dX8_init_138 : decode cX8_init 138 = .ok (.iload_n 1, 1) := by decide +kernel
theorem dX8_init_139 : decode cX8_init 139 = .ok (.sipush 400, 3) := by decide +kernel
theorem dX8_init_142 : decode cX8_init 142 = .ok (.if_icmp .ge 17, 3) := by decide +kernel
theorem dX8_init_145 : decode cX8_init 145 = .ok (.aload_n 0, 1) := by decide +kernel
theorem dX8_init_146 : decode cX8_init 146 = .ok (.getfield 9, 3) := by decide +kernel
theorem dX8_init_149 : decode cX8_init 149 = .ok (.iload_n 1, 1) := by decide +kernel
theorem dX8_init_150 : decode cX8_init 150 = .ok (.bipush (-100), 2) := by decide +kernel
theorem dX8_init_152 : decode cX8_init 152 = .ok (.iastore, 1) := by decide +kernel
theorem dX8_init_153 : decode cX8_init 153 = .ok (.iinc 1 1, 3) := by decide +kernel
theorem dX8_init_156 : decode cX8_init 156 = .ok (.goto (-18), 3) := by decide +kernel
theorem dX8_init_159 : decode cX8_init 159 = .ok (.iconst 0, 1) := by decide +kernel
theorem dX8_init_160 : decode cX8_init 160 = .ok (.istore_n 1, 1) := by decide +kernel
theorem dX8_init_161 : decode cX8_init 161 = .ok (.iload_n 1, 1) := by decide +kernel
theorem dX8_init_162 : decode cX8_init 162 = .ok (.bipush 16, 2) := by decide +kernel
theorem dX8_init_164 : decode cX8_init 164 = .ok (.if_icmp .ge 17, 3) := by decide +kernel
theorem dX8_init_167 : decode cX8_init 167 = .ok (.aload_n 0, 1) := by decide +kernel
theorem dX8_init_168 : decode cX8_init 168 = .ok (.getfield 13, 3) := by decide +kernel
theorem dX8_init_171 : decode cX8_init 171 = .ok (.iload_n 1, 1) := by decide +kernel
theorem dX8_init_172 : decode cX8_init 172 = .ok (.bipush (-5), 2) := by decide +kernel
theorem dX8_init_174 : decode cX8_init 174 = .ok (.iastore, 1) := by decide +kernel
theorem dX8_init_175 : decode cX8_init 175 = .ok (.iinc 1 1, 3) := by decide +kernel
theorem dX8_init_178 : decode cX8_init 178 = .ok (.goto (-17), 3) := by decide +kernel
theorem dX8_init_181 : decode cX8_init 181 = .ok (.iconst 0, 1) := by decide +kernel
theorem dX8_init_182 : decode cX8_init 182 = .ok (.istore_n 1, 1) := by decide +kernel
theorem dX8_init_183 : decode cX8_init 183 = .ok (.iload_n 1, 1) := by decide +kernel
theorem dX8_init_184 : decode cX8_init 184 = .ok (.iconst 5, 1) := by decide +kernel
theorem dX8_init_185 : decode cX8_init 185 = .ok (.if_icmp .ge 22, 3) := by decide +kernel
theorem dX8_init_188 : decode cX8_init 188 = .ok (.aload_n 0, 1) := by decide +kernel
theorem dX8_init_189 : decode cX8_init 189 = .ok (.getfield 27, 3) := by decide +kernel
theorem dX8_init_192 : decode cX8_init 192 = .ok (.iload_n 1, 1) := by decide +kernel
theorem dX8_init_193 : decode cX8_init 193 = .ok (.new 25, 3) := by decide +kernel
theorem dX8_init_196 : decode cX8_init 196 = .ok (.dup, 1) := by decide +kernel
theorem dX8_init_197 : decode cX8_init 197 = .ok (.invokespecial 83, 3) := by decide +kernel
theorem dX8_init_200 : decode cX8_init 200 = .ok (.aastore, 1) := by decide +kernel
theorem dX8_init_201 : decode cX8_init 201 = .ok (.iinc 1 1, 3) := by decide +kernel
theorem dX8_init_204 : decode cX8_init 204 = .ok (.goto (-21), 3) := by decide +kernel
theorem dX8_init_207 : decode cX8_init 207 = .ok (.return_, 1) := by decide +kernel
theorem dX8_isFitToSail_0 : decode cX8_isFitToSail 0 = .ok (.aload_n 0, 1) := by decide +kernel
theorem dX8_isFitToSail_1 : decode cX8_isFitToSail 1 = .ok (.iload_n 1, 1) := by decide +kernel
theorem dX8_isFitToSail_2 : decode cX8_isFitToSail 2 = .ok (.invokevirtual 102, 3) := by decide +kernel
theorem dX8_isFitToSail_5 : decode cX8_isFitToSail 5 = .ok (.astore_n 2, 1) := by decide +kernel
theorem dX8_isFitToSail_6 : decode cX8_isFitToSail 6 = .ok (.aload_n 2, 1) := by decide +kernel
theorem dX8_isFitToSail_7 : decode cX8_isFitToSail 7 = .ok (.ifnull 26, 3) := by decide +kernel
theorem dX8_isFitToSail_10 : decode cX8_isFitToSail 10 = .ok (.aload_n 2, 1) := by decide +kernel
theorem dX8_isFitToSail_11 : decode cX8_isFitToSail 11 = .ok (.aload_n 0, 1) := by decide +kernel
theorem dX8_isFitToSail_12 : decode cX8_isFitToSail 12 = .ok (.getfield 79, 3) := by decide +kernel
theorem dX8_isFitToSail_15 : decode cX8_isFitToSail 15 = .ok (.invokevirtual 106, 3) := by decide +kernel
theorem dX8_isFitToSail_18 : decode cX8_isFitToSail 18 = .ok (.iconst (-1), 1) := by decide +kernel
theorem dX8_isFitToSail_19 : decode cX8_isFitToSail 19 = .ok (.if_icmp .ne 14, 3) := by decide +kernel
theorem dX8_isFitToSail_22 : decode cX8_isFitToSail 22 = .ok (.aload_n 2, 1) := by decide +kernel
theorem dX8_isFitToSail_23 : decode cX8_isFitToSail 23 = .ok (.aload_n 0, 1) := by decide +kernel
theorem dX8_isFitToSail_24 : decode cX8_isFitToSail 24 = .ok (.getfield 79, 3) := by decide +kernel
theorem dX8_isFitToSail_27 : decode cX8_isFitToSail 27 = .ok (.invokevirtual 118, 3) := by decide +kernel
theorem dX8_isFitToSail_30 : decode cX8_isFitToSail 30 = .ok (.ifCond .ne 5, 3) := by decide +kernel
theorem dX8_isFitToSail_33 : decode cX8_isFitToSail 33 = .ok (.iconst 0, 1) := by decide +kernel
theorem dX8_isFitToSail_34 : decode cX8_isFitToSail 34 = .ok (.ireturn, 1) := by decide +kernel
theorem dX8_isFitToSail_35 : decode cX8_isFitToSail 35 = .ok (.aload_n 0, 1) := by decide +kernel
theorem dX8_isFitToSail_36 : decode cX8_isFitToSail 36 = .ok (.aload_n 2, 1) := by decide +kernel
theorem dX8_isFitToSail_37 : decode cX8_isFitToSail 37 = .ok (.invokevirtual 358, 3) := by decide +kernel
theorem dX8_isFitToSail_40 : decode cX8_isFitToSail 40 = .ok (.aload_n 0, 1) := by decide +kernel
theorem dX8_isFitToSail_41 : decode cX8_isFitToSail 41 = .ok (.getfield 44, 3) := by decide +kernel
theorem dX8_isFitToSail_44 : decode cX8_isFitToSail 44 = .ok (.getfield 311, 3) := by decide +kernel
theorem dX8_isFitToSail_47 : decode cX8_isFitToSail 47 = .ok (.iconst 2, 1) := by decide +kernel
theorem dX8_isFitToSail_48 : decode cX8_isFitToSail 48 = .ok (.if_icmp .lt 7, 3) := by decide +kernel
theorem dX8_isFitToSail_51 : decode cX8_isFitToSail 51 = .ok (.iconst 1, 1) := by decide +kernel
theorem dX8_isFitToSail_52 : decode cX8_isFitToSail 52 = .ok (.goto 4, 3) := by decide +kernel
theorem dX8_isFitToSail_55 : decode cX8_isFitToSail 55 = .ok (.iconst 0, 1) := by decide +kernel
theorem dX8_isFitToSail_56 : decode cX8_isFitToSail 56 = .ok (.ireturn, 1) := by decide +kernel
theorem dX8_isPast_0 : decode cX8_isPast 0 = .ok (.iload_n 1, 1) := by decide +kernel
theorem dX8_isPast_1 : decode cX8_isPast 1 = .ok (.ifCond .lt 15, 3) := by decide +kernel
theorem dX8_isPast_4 : decode cX8_isPast 4 = .ok (.iload_n 1, 1) := by decide +kernel
theorem dX8_isPast_5 : decode cX8_isPast 5 = .ok (.aload_n 0, 1) := by decide +kernel
theorem dX8_isPast_6 : decode cX8_isPast 6 = .ok (.getfield 79, 3) := by decide +kernel
theorem dX8_isPast_9 : decode cX8_isPast 9 = .ok (.if_icmp .gt 7, 3) := by decide +kernel
theorem dX8_isPast_12 : decode cX8_isPast 12 = .ok (.iconst 1, 1) := by decide +kernel
theorem dX8_isPast_13 : decode cX8_isPast 13 = .ok (.goto 4, 3) := by decide +kernel
theorem dX8_isPast_16 : decode cX8_isPast 16 = .ok (.iconst 0, 1) := by decide +kernel
theorem dX8_isPast_17 : decode cX8_isPast 17 = .ok (.ireturn, 1) := by decide +kernel
theorem dX8_jump_0 : decode cX8_jump 0 = .ok (.iload 4, 2) := by decide +kernel
theorem dX8_jump_2 : decode cX8_jump 2 = .ok (.ifCond .lt 11, 3) := by decide +kernel
theorem dX8_jump_5 : decode cX8_jump 5 = .ok (.iload 4, 2) := by decide +kernel
theorem dX8_jump_7 : decode cX8_jump 7 = .ok (.sipush 2000, 3) := by decide +kernel
theorem dX8_jump_10 : decode cX8_jump 10 = .ok (.if_icmp .le 5, 3) := by decide +kernel
theorem dX8_jump_13 : decode cX8_jump 13 = .ok (.iconst (-1), 1) := by decide +kernel
theorem dX8_jump_14 : decode cX8_jump 14 = .ok (.ireturn, 1) := by decide +kernel
theorem dX8_jump_15 : decode cX8_jump 15 = .ok (.aload_n 0, 1) := by decide +kernel
theorem dX8_jump_16 : decode cX8_jump 16 = .ok (.iload_n 1, 1) := by decide +kernel
theorem dX8_jump_17 : decode cX8_jump 17 = .ok (.iload_n 2, 1) := by decide +kernel
theorem dX8_jump_18 : decode cX8_jump 18 = .ok (.iload_n 3, 1) := by decide +kernel
theorem dX8_jump_19 : decode cX8_jump 19 = .ok (.invokevirtual 152, 3) := by decide +kernel
theorem dX8_jump_22 : decode cX8_jump 22 = .ok (.istore 5, 2) := by decide +kernel
theorem dX8_jump_24 : decode cX8_jump 24 = .ok (.iload 5, 2) := by decide +kernel
theorem dX8_jump_26 : decode cX8_jump 26 = .ok (.ifCond .eq 6, 3) := by decide +kernel
theorem dX8_jump_29 : decode cX8_jump 29 = .ok (.iload 5, 2) := by decide +kernel
theorem dX8_jump_31 : decode cX8_jump 31 = .ok (.ireturn, 1) := by decide +kernel
theorem dX8_jump_32 : decode cX8_jump 32 = .ok (.aload_n 0, 1) := by decide +kernel
theorem dX8_jump_33 : decode cX8_jump 33 = .ok (.getfield 44, 3) := by decide +kernel
theorem dX8_jump_36 : decode cX8_jump 36 = .ok (.aload_n 0, 1) := by decide +kernel
theorem dX8_jump_37 : decode cX8_jump 37 = .ok (.iload_n 1, 1) := by decide +kernel
theorem dX8_jump_38 : decode cX8_jump 38 = .ok (.invokevirtual 102, 3) := by decide +kernel
theorem dX8_jump_41 : decode cX8_jump 41 = .ok (.aload_n 0, 1) := by decide +kernel
theorem dX8_jump_42 : decode cX8_jump 42 = .ok (.getfield 37, 3) := by decide +kernel
theorem dX8_jump_45 : decode cX8_jump 45 = .ok (.iload_n 2, 1) := by decide +kernel
theorem dX8_jump_46 : decode cX8_jump 46 = .ok (.iload_n 3, 1) := by decide +kernel
theorem dX8_jump_47 : decode cX8_jump 47 = .ok (.invokevirtual 172, 3) := by decide +kernel
theorem dX8_jump_50 : decode cX8_jump 50 = .ok (.aload_n 0, 1) := by decide +kernel
theorem dX8_jump_51 : decode cX8_jump 51 = .ok (.getfield 44, 3) := by decide +kernel
theorem dX8_jump_54 : decode cX8_jump 54 = .ok (.iload 4, 2) := by decide +kernel
theorem dX8_jump_56 : decode cX8_jump 56 = .ok (.invokevirtual 176, 3) := by decide +kernel
theorem dX8_jump_59 : decode cX8_jump 59 = .ok (.ireturn, 1) := by decide +kernel
theorem dX8_lackAt_0 : decode cX8_lackAt 0 = .ok (.iload_n 1, 1) := by decide +kernel
theorem dX8_lackAt_1 : decode cX8_lackAt 1 = .ok (.invokestatic 92, 3) := by decide +kernel
theorem dX8_lackAt_4 : decode cX8_lackAt 4 = .ok (.ifCond .ne 5, 3) := by decide +kernel
theorem dX8_lackAt_7 : decode cX8_lackAt 7 = .ok (.iconst (-1), 1) := by decide +kernel
theorem dX8_lackAt_8 : decode cX8_lackAt 8 = .ok (.ireturn, 1) := by decide +kernel
theorem dX8_lackAt_9 : decode cX8_lackAt 9 = .ok (.aload_n 0, 1) := by decide +kernel
theorem dX8_lackAt_10 : decode cX8_lackAt 10 = .ok (.getfield 13, 3) := by decide +kernel
theorem dX8_lackAt_13 : decode cX8_lackAt 13 = .ok (.iload_n 1, 1) := by decide +kernel
theorem dX8_lackAt_14 : decode cX8_lackAt 14 = .ok (.iaload, 1) := by decide +kernel
theorem dX8_lackAt_15 : decode cX8_lackAt 15 = .ok (.bipush (-5), 2) := by decide +kernel
theorem dX8_lackAt_17 : decode cX8_lackAt 17 = .ok (.if_icmp .ne 8, 3) := by decide +kernel
theorem dX8_lackAt_20 : decode cX8_lackAt 20 = .ok (.bipush (-2), 2) := by decide +kernel
theorem dX8_lackAt_22 : decode cX8_lackAt 22 = .ok (.goto 5, 3) := by decide +kernel
theorem dX8_lackAt_25 : decode cX8_lackAt 25 = .ok (.bipush (-3), 2) := by decide +kernel
theorem dX8_lackAt_27 : decode cX8_lackAt 27 = .ok (.ireturn, 1) := by decide +kernel
theorem dX8_late_0 : decode cX8_late 0 = .ok (.aload_n 0, 1) := by decide +kernel
theorem dX8_late_1 : decode cX8_late 1 = .ok (.iload_n 1, 1) := by decide +kernel
theorem dX8_late_2 : decode cX8_late 2 = .ok (.iload_n 2, 1) := by decide +kernel
theorem dX8_late_3 : decode cX8_late 3 = .ok (.iconst 2, 1) := by decide +kernel
theorem dX8_late_4 : decode cX8_late 4 = .ok (.invokevirtual 135, 3) := by decide +kernel
theorem dX8_late_7 : decode cX8_late 7 = .ok (.ireturn, 1) := by decide +kernel
theorem dX8_law_0 : decode cX8_law 0 = .ok (.aload_n 0, 1) := by decide +kernel
theorem dX8_law_1 : decode cX8_law 1 = .ok (.iload_n 1, 1) := by decide +kernel
theorem dX8_law_2 : decode cX8_law 2 = .ok (.iload_n 2, 1) := by decide +kernel
theorem dX8_law_3 : decode cX8_law 3 = .ok (.iload_n 3, 1) := by decide +kernel
theorem dX8_law_4 : decode cX8_law 4 = .ok (.invokevirtual 152, 3) := by decide +kernel
theorem dX8_law_7 : decode cX8_law 7 = .ok (.istore 4, 2) := by decide +kernel
theorem dX8_law_9 : decode cX8_law 9 = .ok (.iload 4, 2) := by decide +kernel
theorem dX8_law_11 : decode cX8_law 11 = .ok (.ifCond .eq 6, 3) := by decide +kernel
theorem dX8_law_14 : decode cX8_law 14 = .ok (.iload 4, 2) := by decide +kernel
theorem dX8_law_16 : decode cX8_law 16 = .ok (.ireturn, 1) := by decide +kernel
theorem dX8_law_17 : decode cX8_law 17 = .ok (.aload_n 0, 1) := by decide +kernel
theorem dX8_law_18 : decode cX8_law 18 = .ok (.iload_n 1, 1) := by decide +kernel
theorem dX8_law_19 : decode cX8_law 19 = .ok (.iload_n 2, 1) := by decide +kernel
theorem dX8_law_20 : decode cX8_law 20 = .ok (.iload_n 3, 1) := by decide +kernel
theorem dX8_law_21 : decode cX8_law 21 = .ok (.invokevirtual 155, 3) := by decide +kernel
theorem dX8_law_24 : decode cX8_law 24 = .ok (.aload_n 0, 1) := by decide +kernel
theorem dX8_law_25 : decode cX8_law 25 = .ok (.getfield 51, 3) := by decide +kernel
theorem dX8_law_28 : decode cX8_law 28 = .ok (.invokevirtual 158, 3) := by decide +kernel
theorem dX8_law_31 : decode cX8_law 31 = .ok (.ireturn, 1) := by decide +kernel
theorem dX8_lend_0 : decode cX8_lend 0 = .ok (.iload_n 1, 1) := by decide +kernel
theorem dX8_lend_1 : decode cX8_lend 1 = .ok (.invokestatic 92, 3) := by decide +kernel
theorem dX8_lend_4 : decode cX8_lend 4 = .ok (.ifCond .eq 13, 3) := by decide +kernel
theorem dX8_lend_7 : decode cX8_lend 7 = .ok (.iload_n 2, 1) := by decide +kernel
theorem dX8_lend_8 : decode cX8_lend 8 = .ok (.ifCond .lt 9, 3) := by decide +kernel
theorem dX8_lend_11 : decode cX8_lend 11 = .ok (.iload_n 2, 1) := by decide +kernel
theorem dX8_lend_12 : decode cX8_lend 12 = .ok (.bipush 20, 2) := by decide +kernel
theorem dX8_lend_14 : decode cX8_lend 14 = .ok (.if_icmp .lt 5, 3) := by decide +kernel
theorem dX8_lend_17 : decode cX8_lend 17 = .ok (.iconst (-1), 1) := by decide +kernel
theorem dX8_lend_18 : decode cX8_lend 18 = .ok (.ireturn, 1) := by decide +kernel
theorem dX8_lend_19 : decode cX8_lend 19 = .ok (.aload_n 0, 1) := by decide +kernel
theorem dX8_lend_20 : decode cX8_lend 20 = .ok (.iload_n 1, 1) := by decide +kernel
theorem dX8_lend_21 : decode cX8_lend 21 = .ok (.invokevirtual 102, 3) := by decide +kernel
theorem dX8_lend_24 : decode cX8_lend 24 = .ok (.astore_n 3, 1) := by decide +kernel
theorem dX8_lend_25 : decode cX8_lend 25 = .ok (.aload_n 3, 1) := by decide +kernel
theorem dX8_lend_26 : decode cX8_lend 26 = .ok (.ifnonnull 9, 3) := by decide +kernel
theorem dX8_lend_29 : decode cX8_lend 29 = .ok (.aload_n 0, 1) := by decide +kernel
theorem dX8_lend_30 : decode cX8_lend 30 = .ok (.iload_n 1, 1) := by decide +kernel
theorem dX8_lend_31 : decode cX8_lend 31 = .ok (.invokevirtual 115, 3) := by decide +kernel
theorem dX8_lend_34 : decode cX8_lend 34 = .ok (.ireturn, 1) := by decide +kernel
theorem dX8_lend_35 : decode cX8_lend 35 = .ok (.aload_n 3, 1) := by decide +kernel
theorem dX8_lend_36 : decode cX8_lend 36 = .ok (.aload_n 0, 1) := by decide +kernel
theorem dX8_lend_37 : decode cX8_lend 37 = .ok (.getfield 79, 3) := by decide +kernel
theorem dX8_lend_40 : decode cX8_lend 40 = .ok (.invokevirtual 106, 3) := by decide +kernel
theorem dX8_lend_43 : decode cX8_lend 43 = .ok (.iconst (-1), 1) := by decide +kernel
theorem dX8_lend_44 : decode cX8_lend 44 = .ok (.if_icmp .eq 6, 3) := by decide +kernel
theorem dX8_lend_47 : decode cX8_lend 47 = .ok (.bipush (-4), 2) := by decide +kernel
theorem dX8_lend_49 : decode cX8_lend 49 = .ok (.ireturn, 1) := by decide +kernel
theorem dX8_lend_50 : decode cX8_lend 50 = .ok (.aload_n 3, 1) := by decide +kernel
theorem dX8_lend_51 : decode cX8_lend 51 = .ok (.iload_n 2, 1) := by decide +kernel
theorem dX8_lend_52 : decode cX8_lend 52 = .ok (.aload_n 0, 1) := by decide +kernel
theorem dX8_lend_53 : decode cX8_lend 53 = .ok (.getfield 79, 3) := by decide +kernel
theorem dX8_lend_56 : decode cX8_lend 56 = .ok (.invokevirtual 288, 3) := by decide +kernel
theorem dX8_lend_59 : decode cX8_lend 59 = .ok (.iconst 1, 1) := by decide +kernel
theorem dX8_lend_60 : decode cX8_lend 60 = .ok (.ireturn, 1) := by decide +kernel
theorem dX8_markOn_0 : decode cX8_markOn 0 = .ok (.iload_n 1, 1) := by decide +kernel
theorem dX8_markOn_1 : decode cX8_markOn 1 = .ok (.invokestatic 92, 3) := by decide +kernel
theorem dX8_markOn_4 : decode cX8_markOn 4 = .ok (.ifCond .eq 11, 3) := by decide +kernel
theorem dX8_markOn_7 : decode cX8_markOn 7 = .ok (.aload_n 0, 1) := by decide +kernel
theorem dX8_markOn_8 : decode cX8_markOn 8 = .ok (.iload_n 2, 1) := by decide +kernel
theorem dX8_markOn_9 : decode cX8_markOn 9 = .ok (.invokevirtual 111, 3) := by decide +kernel
theorem dX8_markOn_12 : decode cX8_markOn 12 = .ok (.ifCond .ne 5, 3) := by decide +kernel
theorem dX8_markOn_15 : decode cX8_markOn 15 = .ok (.iconst (-1), 1) := by decide +kernel
theorem dX8_markOn_16 : decode cX8_markOn 16 = .ok (.ireturn, 1) := by decide +kernel
theorem dX8_markOn_17 : decode cX8_markOn 17 = .ok (.aload_n 0, 1) := by decide +kernel
theorem dX8_markOn_18 : decode cX8_markOn 18 = .ok (.iload_n 1, 1) := by decide +kernel
theorem dX8_markOn_19 : decode cX8_markOn 19 = .ok (.invokevirtual 102, 3) := by decide +kernel
theorem dX8_markOn_22 : decode cX8_markOn 22 = .ok (.astore 4, 2) := by decide +kernel
theorem dX8_markOn_24 : decode cX8_markOn 24 = .ok (.aload 4, 2) := by decide +kernel
theorem dX8_markOn_26 : decode cX8_markOn 26 = .ok (.ifnonnull 9, 3) := by decide +kernel
theorem dX8_markOn_29 : decode cX8_markOn 29 = .ok (.aload_n 0, 1) := by decide +kernel
theorem dX8_markOn_30 : decode cX8_markOn 30 = .ok (.iload_n 1, 1) := by decide +kernel
theorem dX8_markOn_31 : decode cX8_markOn 31 = .ok (.invokevirtual 115, 3) := by decide +kernel
theorem dX8_markOn_34 : decode cX8_markOn 34 = .ok (.ireturn, 1) := by decide +kernel
theorem dX8_markOn_35 : decode cX8_markOn 35 = .ok (.aload 4, 2) := by decide +kernel
theorem dX8_markOn_37 : decode cX8_markOn 37 = .ok (.iload_n 2, 1) := by decide +kernel
theorem dX8_markOn_38 : decode cX8_markOn 38 = .ok (.iload_n 3, 1) := by decide +kernel
theorem dX8_markOn_39 : decode cX8_markOn 39 = .ok (.invokevirtual 305, 3) := by decide +kernel
theorem dX8_markOn_42 : decode cX8_markOn 42 = .ok (.ifCond .eq 7, 3) := by decide +kernel
theorem dX8_markOn_45 : decode cX8_markOn 45 = .ok (.iconst 1, 1) := by decide +kernel
theorem dX8_markOn_46 : decode cX8_markOn 46 = .ok (.goto 4, 3) := by decide +kernel
theorem dX8_markOn_49 : decode cX8_markOn 49 = .ok (.iconst 0, 1) := by decide +kernel
theorem dX8_markOn_50 : decode cX8_markOn 50 = .ok (.ireturn, 1) := by decide +kernel
theorem dX8_off_0 : decode cX8_off 0 = .ok (.iload_n 1, 1) := by decide +kernel
theorem dX8_off_1 : decode cX8_off 1 = .ok (.iconst 1, 1) := by decide +kernel
theorem dX8_off_2 : decode cX8_off 2 = .ok (.if_icmp .lt 39, 3) := by decide +kernel
theorem dX8_off_5 : decode cX8_off 5 = .ok (.iload_n 1, 1) := by decide +kernel
theorem dX8_off_6 : decode cX8_off 6 = .ok (.bipush 6, 2) := by decide +kernel
theorem dX8_off_8 : decode cX8_off 8 = .ok (.if_icmp .ge 33, 3) := by decide +kernel
theorem dX8_off_11 : decode cX8_off 11 = .ok (.iload_n 2, 1) := by decide +kernel
theorem dX8_off_12 : decode cX8_off 12 = .ok (.invokestatic 84, 3) := by decide +kernel
theorem dX8_off_15 : decode cX8_off 15 = .ok (.ifCond .eq 26, 3) := by decide +kernel
theorem dX8_off_18 : decode cX8_off 18 = .ok (.iload_n 3, 1) := by decide +kernel
theorem dX8_off_19 : decode cX8_off 19 = .ok (.invokestatic 84, 3) := by decide +kernel
theorem dX8_off_22 : decode cX8_off 22 = .ok (.ifCond .eq 19, 3) := by decide +kernel
theorem dX8_off_25 : decode cX8_off 25 = .ok (.iload_n 2, 1) := by decide +kernel
theorem dX8_off_26 : decode cX8_off 26 = .ok (.iload_n 3, 1) := by decide +kernel
theorem dX8_off_27 : decode cX8_off 27 = .ok (.if_icmp .gt 14, 3) := by decide +kernel
theorem dX8_off_30 : decode cX8_off 30 = .ok (.iload 4, 2) := by decide +kernel
theorem dX8_off_32 : decode cX8_off 32 = .ok (.sipush 10000, 3) := by decide +kernel
theorem dX8_off_35 : decode cX8_off 35 = .ok (.invokestatic 88, 3) := by decide +kernel
theorem dX8_off_38 : decode cX8_off 38 = .ok (.ifCond .ne 5, 3) := by decide +kernel
theorem dX8_off_41 : decode cX8_off 41 = .ok (.iconst (-1), 1) := by decide +kernel
theorem dX8_off_42 : decode cX8_off 42 = .ok (.ireturn, 1) := by decide +kernel
theorem dX8_off_43 : decode cX8_off 43 = .ok (.aload_n 0, 1) := by decide +kernel
theorem dX8_off_44 : decode cX8_off 44 = .ok (.getfield 37, 3) := by decide +kernel
theorem dX8_off_47 : decode cX8_off 47 = .ok (.getfield 142, 3) := by decide +kernel
theorem dX8_off_50 : decode cX8_off 50 = .ok (.bipush 60, 2) := by decide +kernel
theorem dX8_off_52 : decode cX8_off 52 = .ok (.if_icmp .lt 6, 3) := by decide +kernel
theorem dX8_off_55 : decode cX8_off 55 = .ok (.bipush (-5), 2) := by decide +kernel
theorem dX8_off_57 : decode cX8_off 57 = .ok (.ireturn, 1) := by decide +kernel
theorem dX8_off_58 : decode cX8_off 58 = .ok (.aload_n 0, 1) := by decide +kernel
theorem dX8_off_59 : decode cX8_off 59 = .ok (.getfield 37, 3) := by decide +kernel
theorem dX8_off_62 : decode cX8_off 62 = .ok (.iload_n 1, 1) := by decide +kernel
theorem dX8_off_63 : decode cX8_off 63 = .ok (.iload_n 2, 1) := by decide +kernel
theorem dX8_off_64 : decode cX8_off 64 = .ok (.iload_n 3, 1) := by decide +kernel
theorem dX8_off_65 : decode cX8_off 65 = .ok (.iload 4, 2) := by decide +kernel
theorem dX8_off_67 : decode cX8_off 67 = .ok (.aload_n 0, 1) := by decide +kernel
theorem dX8_off_68 : decode cX8_off 68 = .ok (.getfield 79, 3) := by decide +kernel
theorem dX8_off_71 : decode cX8_off 71 = .ok (.invokevirtual 145, 3) := by decide +kernel
theorem dX8_off_74 : decode cX8_off 74 = .ok (.aload_n 0, 1) := by decide +kernel
theorem dX8_off_75 : decode cX8_off 75 = .ok (.getfield 37, 3) := by decide +kernel
theorem dX8_off_78 : decode cX8_off 78 = .ok (.getfield 142, 3) := by decide +kernel
theorem dX8_off_81 : decode cX8_off 81 = .ok (.ireturn, 1) := by decide +kernel
theorem dX8_order_0 : decode cX8_order 0 = .ok (.aload_n 0, 1) := by decide +kernel
theorem dX8_order_1 : decode cX8_order 1 = .ok (.iload_n 1, 1) := by decide +kernel
theorem dX8_order_2 : decode cX8_order 2 = .ok (.iload_n 2, 1) := by decide +kernel
theorem dX8_order_3 : decode cX8_order 3 = .ok (.iload_n 3, 1) := by decide +kernel
theorem dX8_order_4 : decode cX8_order 4 = .ok (.invokevirtual 152, 3) := by decide +kernel
theorem dX8_order_7 : decode cX8_order 7 = .ok (.istore 4, 2) := by decide +kernel
theorem dX8_order_9 : decode cX8_order 9 = .ok (.iload 4, 2) := by decide +kernel
theorem dX8_order_11 : decode cX8_order 11 = .ok (.ifCond .eq 6, 3) := by decide +kernel
theorem dX8_order_14 : decode cX8_order 14 = .ok (.iload 4, 2) := by decide +kernel
theorem dX8_order_16 : decode cX8_order 16 = .ok (.ireturn, 1) := by decide +kernel
theorem dX8_order_17 : decode cX8_order 17 = .ok (.aload_n 0, 1) := by decide +kernel
theorem dX8_order_18 : decode cX8_order 18 = .ok (.iload_n 1, 1) := by decide +kernel
theorem dX8_order_19 : decode cX8_order 19 = .ok (.iload_n 2, 1) := by decide +kernel
theorem dX8_order_20 : decode cX8_order 20 = .ok (.iload_n 3, 1) := by decide +kernel
theorem dX8_order_21 : decode cX8_order 21 = .ok (.invokevirtual 194, 3) := by decide +kernel
theorem dX8_order_24 : decode cX8_order 24 = .ok (.ifCond .ne 6, 3) := by decide +kernel
theorem dX8_order_27 : decode cX8_order 27 = .ok (.bipush (-4), 2) := by decide +kernel
theorem dX8_order_29 : decode cX8_order 29 = .ok (.ireturn, 1) := by decide +kernel
theorem dX8_order_30 : decode cX8_order 30 = .ok (.aload_n 0, 1) := by decide +kernel
theorem dX8_order_31 : decode cX8_order 31 = .ok (.iload_n 1, 1) := by decide +kernel
theorem dX8_order_32 : decode cX8_order 32 = .ok (.iload_n 3, 1) := by decide +kernel
theorem dX8_order_33 : decode cX8_order 33 = .ok (.iload_n 2, 1) := by decide +kernel
theorem dX8_order_34 : decode cX8_order 34 = .ok (.isub, 1) := by decide +kernel
theorem dX8_order_35 : decode cX8_order 35 = .ok (.invokevirtual 198, 3) := by decide +kernel
theorem dX8_order_38 : decode cX8_order 38 = .ok (.istore 5, 2) := by decide +kernel
theorem dX8_order_40 : decode cX8_order 40 = .ok (.iconst 0, 1) := by decide +kernel
theorem dX8_order_41 : decode cX8_order 41 = .ok (.istore 6, 2) := by decide +kernel
theorem dX8_order_43 : decode cX8_order 43 = .ok (.iconst 0, 1) := by decide +kernel
theorem dX8_order_44 : decode cX8_order 44 = .ok (.istore 7, 2) := by decide +kernel
theorem dX8_order_46 : decode cX8_order 46 = .ok (.iload 7, 2) := by decide +kernel
theorem dX8_order_48 : decode cX8_order 48 = .ok (.bipush 16, 2) := by decide +kernel
theorem dX8_order_50 : decode cX8_order 50 = .ok (.if_icmp .ge 37, 3) := by decide +kernel
theorem dX8_order_53 : decode cX8_order 53 = .ok (.aload_n 0, 1) := by decide +kernel
theorem dX8_order_54 : decode cX8_order 54 = .ok (.iload 7, 2) := by decide +kernel
theorem dX8_order_56 : decode cX8_order 56 = .ok (.iload_n 2, 1) := by decide +kernel
theorem dX8_order_57 : decode cX8_order 57 = .ok (.iload_n 3, 1) := by decide +kernel
theorem dX8_order_58 : decode cX8_order 58 = .ok (.invokevirtual 194, 3) := by decide +kernel
theorem dX8_order_61 : decode cX8_order 61 = .ok (.ifCond .eq 20, 3) := by decide +kernel
theorem dX8_order_64 : decode cX8_order 64 = .ok (.aload_n 0, 1) := by decide +kernel
theorem dX8_order_65 : decode cX8_order 65 = .ok (.iload 7, 2) := by decide +kernel
theorem dX8_order_67 : decode cX8_order 67 = .ok (.iload_n 3, 1) := by decide +kernel
theorem dX8_order_68 : decode cX8_order 68 = .ok (.iload_n 2, 1) := by decide +kernel
theorem dX8_order_69 : decode cX8_order 69 = .ok (.isub, 1) := by decide +kernel
theorem dX8_order_70 : decode cX8_order 70 = .ok (.invokevirtual 198, 3) := by decide +kernel
theorem dX8_order_73 : decode cX8_order 73 = .ok (.iload 5, 2) := by decide +kernel
theorem dX8_order_75 : decode cX8_order 75 = .ok (.if_icmp .ge 6, 3) := by decide +kernel
theorem dX8_order_78 : decode cX8_order 78 = .ok (.iinc 6 1, 3) := by decide +kernel
theorem dX8_order_81 : decode cX8_order 81 = .ok (.iinc 7 1, 3) := by decide +kernel
theorem dX8_order_84 : decode cX8_order 84 = .ok (.goto (-38), 3) := by decide +kernel
theorem dX8_order_87 : decode cX8_order 87 = .ok (.iconst 1, 1) := by decide +kernel
theorem dX8_order_88 : decode cX8_order 88 = .ok (.iload 6, 2) := by decide +kernel
theorem dX8_order_90 : decode cX8_order 90 = .ok (.iadd, 1) := by decide +kernel
theorem dX8_order_91 : decode cX8_order 91 = .ok (.ireturn, 1) := by decide +kernel
theorem dX8_placesWith_0 : decode cX8_placesWith 0 = .ok (.iconst 0, 1) := by decide +kernel
theorem dX8_placesWith_1 : decode cX8_placesWith 1 = .ok (.istore_n 2, 1) := by decide +kernel
theorem dX8_placesWith_2 : decode cX8_placesWith 2 = .ok (.iconst 0, 1) := by decide +kernel
theorem dX8_placesWith_3 : decode cX8_placesWith 3 = .ok (.istore_n 3, 1) := by decide +kernel
theorem dX8_placesWith_4 : decode cX8_placesWith 4 = .ok (.iload_n 3, 1) := by decide +kernel
theorem dX8_placesWith_5 : decode cX8_placesWith 5 = .ok (.bipush 16, 2) := by decide +kernel
theorem dX8_placesWith_7 : decode cX8_placesWith 7 = .ok (.if_icmp .ge 22, 3) := by decide +kernel
theorem dX8_placesWith_10 : decode cX8_placesWith 10 = .ok (.aload_n 0, 1) := by decide +kernel
theorem dX8_placesWith_11 : decode cX8_placesWith 11 = .ok (.getfield 13, 3) := by decide +kernel
theorem dX8_placesWith_14 : decode cX8_placesWith 14 = .ok (.iload_n 3, 1) := by decide +kernel
theorem dX8_placesWith_15 : decode cX8_placesWith 15 = .ok (.iaload, 1) := by decide +kernel
theorem dX8_placesWith_16 : decode cX8_placesWith 16 = .ok (.iload_n 1, 1) := by decide +kernel
theorem dX8_placesWith_17 : decode cX8_placesWith 17 = .ok (.if_icmp .ne 6, 3) := by decide +kernel
theorem dX8_placesWith_20 : decode cX8_placesWith 20 = .ok (.iinc 2 1, 3) := by decide +kernel
theorem dX8_placesWith_23 : decode cX8_placesWith 23 = .ok (.iinc 3 1, 3) := by decide +kernel
theorem dX8_placesWith_26 : decode cX8_placesWith 26 = .ok (.goto (-22), 3) := by decide +kernel
theorem dX8_placesWith_29 : decode cX8_placesWith 29 = .ok (.iload_n 2, 1) := by decide +kernel
theorem dX8_placesWith_30 : decode cX8_placesWith 30 = .ok (.ireturn, 1) := by decide +kernel
theorem dX8_put_0 : decode cX8_put 0 = .ok (.iload_n 1, 1) := by decide +kernel
theorem dX8_put_1 : decode cX8_put 1 = .ok (.invokestatic 92, 3) := by decide +kernel
theorem dX8_put_4 : decode cX8_put 4 = .ok (.ifCond .eq 11, 3) := by decide +kernel
theorem dX8_put_7 : decode cX8_put 7 = .ok (.iload_n 2, 1) := by decide +kernel
theorem dX8_put_8 : decode cX8_put 8 = .ok (.iload_n 3, 1) := by decide +kernel
theorem dX8_put_9 : decode cX8_put 9 = .ok (.invokestatic 95, 3) := by decide +kernel
theorem dX8_put_12 : decode cX8_put 12 = .ok (.ifCond .ne 5, 3) := by decide +kernel
theorem dX8_put_15 : decode cX8_put 15 = .ok (.iconst (-1), 1) := by decide +kernel
theorem dX8_put_16 : decode cX8_put 16 = .ok (.ireturn, 1) := by decide +kernel
theorem dX8_put_17 : decode cX8_put 17 = .ok (.aload_n 0, 1) := by decide +kernel
theorem dX8_put_18 : decode cX8_put 18 = .ok (.getfield 13, 3) := by decide +kernel
theorem dX8_put_21 : decode cX8_put 21 = .ok (.iload_n 1, 1) := by decide +kernel
theorem dX8_put_22 : decode cX8_put 22 = .ok (.iaload, 1) := by decide +kernel
theorem dX8_put_23 : decode cX8_put 23 = .ok (.bipush (-5), 2) := by decide +kernel
theorem dX8_put_25 : decode cX8_put 25 = .ok (.if_icmp .eq 6, 3) := by decide +kernel
theorem dX8_put_28 : decode cX8_put 28 = .ok (.bipush (-4), 2) := by decide +kernel
theorem dX8_put_30 : decode cX8_put 30 = .ok (.ireturn, 1) := by decide +kernel
theorem dX8_put_31 : decode cX8_put 31 = .ok (.aload_n 0, 1) := by decide +kernel
theorem dX8_put_32 : decode cX8_put 32 = .ok (.getfield 13, 3) := by decide +kernel
theorem dX8_put_35 : decode cX8_put 35 = .ok (.iload_n 1, 1) := by decide +kernel
theorem dX8_put_36 : decode cX8_put 36 = .ok (.iload_n 2, 1) := by decide +kernel
theorem dX8_put_37 : decode cX8_put 37 = .ok (.iastore, 1) := by decide +kernel
theorem dX8_put_38 : decode cX8_put 38 = .ok (.aload_n 0, 1) := by decide +kernel
theorem dX8_put_39 : decode cX8_put 39 = .ok (.getfield 16, 3) := by decide +kernel
theorem dX8_put_42 : decode cX8_put 42 = .ok (.iload_n 1, 1) := by decide +kernel
theorem dX8_put_43 : decode cX8_put 43 = .ok (.iload_n 3, 1) := by decide +kernel
theorem dX8_put_44 : decode cX8_put 44 = .ok (.iastore, 1) := by decide +kernel
theorem dX8_put_45 : decode cX8_put 45 = .ok (.iload_n 2, 1) := by decide +kernel
theorem dX8_put_46 : decode cX8_put 46 = .ok (.iconst 2, 1) := by decide +kernel
theorem dX8_put_47 : decode cX8_put 47 = .ok (.if_icmp .eq 8, 3) := by decide +kernel
theorem dX8_put_50 : decode cX8_put 50 = .ok (.aload_n 0, 1) := by decide +kernel
theorem dX8_put_51 : decode cX8_put 51 = .ok (.iload_n 1, 1) := by decide +kernel
theorem dX8_put_52 : decode cX8_put 52 = .ok (.invokevirtual 98, 3) := by decide +kernel
theorem dX8_put_55 : decode cX8_put 55 = .ok (.iconst 1, 1) := by decide +kernel
theorem dX8_put_56 : decode cX8_put 56 = .ok (.ireturn, 1) := by decide +kernel
theorem dX8_rate_0 : decode cX8_rate 0 = .ok (.aload_n 0, 1) := by decide +kernel
theorem dX8_rate_1 : decode cX8_rate 1 = .ok (.iload_n 1, 1) := by decide +kernel
theorem dX8_rate_2 : decode cX8_rate 2 = .ok (.invokevirtual 102, 3) := by decide +kernel
theorem dX8_rate_5 : decode cX8_rate 5 = .ok (.astore 4, 2) := by decide +kernel
theorem dX8_rate_7 : decode cX8_rate 7 = .ok (.aload 4, 2) := by decide +kernel
theorem dX8_rate_9 : decode cX8_rate 9 = .ok (.ifnull 17, 3) := by decide +kernel
theorem dX8_rate_12 : decode cX8_rate 12 = .ok (.iload_n 2, 1) := by decide +kernel
theorem dX8_rate_13 : decode cX8_rate 13 = .ok (.invokestatic 84, 3) := by decide +kernel
theorem dX8_rate_16 : decode cX8_rate 16 = .ok (.ifCond .eq 10, 3) := by decide +kernel
theorem dX8_rate_19 : decode cX8_rate 19 = .ok (.iload_n 3, 1) := by decide +kernel
theorem dX8_rate_20 : decode cX8_rate 20 = .ok (.invokestatic 125, 3) := by decide +kernel
theorem dX8_rate_23 : decode cX8_rate 23 = .ok (.ifCond .ne 6, 3) := by decide +kernel
theorem dX8_rate_26 : decode cX8_rate 26 = .ok (.ldc 110, 2) := by decide +kernel
theorem dX8_rate_28 : decode cX8_rate 28 = .ok (.ireturn, 1) := by decide +kernel
theorem dX8_rate_29 : decode cX8_rate 29 = .ok (.aload 4, 2) := by decide +kernel
theorem dX8_rate_31 : decode cX8_rate 31 = .ok (.iload_n 2, 1) := by decide +kernel
theorem dX8_rate_32 : decode cX8_rate 32 = .ok (.aload_n 0, 1) := by decide +kernel
theorem dX8_rate_33 : decode cX8_rate 33 = .ok (.getfield 37, 3) := by decide +kernel
theorem dX8_rate_36 : decode cX8_rate 36 = .ok (.iload_n 3, 1) := by decide +kernel
theorem dX8_rate_37 : decode cX8_rate 37 = .ok (.invokevirtual 132, 3) := by decide +kernel
theorem dX8_rate_40 : decode cX8_rate 40 = .ok (.ireturn, 1) := by decide +kernel
theorem dX8_read_0 : decode cX8_read 0 = .ok (.iload_n 1, 1) := by decide +kernel
theorem dX8_read_1 : decode cX8_read 1 = .ok (.invokestatic 92, 3) := by decide +kernel
theorem dX8_read_4 : decode cX8_read 4 = .ok (.ifCond .eq 23, 3) := by decide +kernel
theorem dX8_read_7 : decode cX8_read 7 = .ok (.aload_n 0, 1) := by decide +kernel
theorem dX8_read_8 : decode cX8_read 8 = .ok (.getfield 13, 3) := by decide +kernel
theorem dX8_read_11 : decode cX8_read 11 = .ok (.iload_n 1, 1) := by decide +kernel
theorem dX8_read_12 : decode cX8_read 12 = .ok (.iaload, 1) := by decide +kernel
theorem dX8_read_13 : decode cX8_read 13 = .ok (.iconst 1, 1) := by decide +kernel
theorem dX8_read_14 : decode cX8_read 14 = .ok (.if_icmp .eq 16, 3) := by decide +kernel
theorem dX8_read_17 : decode cX8_read 17 = .ok (.aload_n 0, 1) := by decide +kernel
theorem dX8_read_18 : decode cX8_read 18 = .ok (.getfield 13, 3) := by decide +kernel
theorem dX8_read_21 : decode cX8_read 21 = .ok (.iload_n 1, 1) := by decide +kernel
theorem dX8_read_22 : decode cX8_read 22 = .ok (.iaload, 1) := by decide +kernel
theorem dX8_read_23 : decode cX8_read 23 = .ok (.iconst 2, 1) := by decide +kernel
theorem dX8_read_24 : decode cX8_read 24 = .ok (.if_icmp .eq 6, 3) := by decide +kernel
theorem dX8_read_27 : decode cX8_read 27 = .ok (.ldc 110, 2) := by decide +kernel
theorem dX8_read_29 : decode cX8_read 29 = .ok (.ireturn, 1) := by decide +kernel
theorem dX8_read_30 : decode cX8_read 30 = .ok (.aload_n 0, 1) := by decide +kernel
theorem dX8_read_31 : decode cX8_read 31 = .ok (.getfield 16, 3) := by decide +kernel
theorem dX8_read_34 : decode cX8_read 34 = .ok (.iload_n 1, 1) := by decide +kernel
theorem dX8_read_35 : decode cX8_read 35 = .ok (.iaload, 1) := by decide +kernel
theorem dX8_read_36 : decode cX8_read 36 = .ok (.ireturn, 1) := by decide +kernel
theorem dX8_refusalOfStretch_0 : decode cX8_refusalOfStretch 0 = .ok (.iload_n 1, 1) := by decide +kernel
theorem dX8_refusalOfStretch_1 : decode cX8_refusalOfStretch 1 = .ok (.invokestatic 92, 3) := by decide +kernel
theorem dX8_refusalOfStretch_4 : decode cX8_refusalOfStretch 4 = .ok (.ifCond .eq 11, 3) := by decide +kernel
theorem dX8_refusalOfStretch_7 : decode cX8_refusalOfStretch 7 = .ok (.iload_n 2, 1) := by decide +kernel
theorem dX8_refusalOfStretch_8 : decode cX8_refusalOfStretch 8 = .ok (.iload_n 3, 1) := by decide +kernel
theorem dX8_refusalOfStretch_9 : decode cX8_refusalOfStretch 9 = .ok (.invokestatic 149, 3) := by decide +kernel
theorem dX8_refusalOfStretch_12 : decode cX8_refusalOfStretch 12 = .ok (.ifCond .ne 5, 3) := by decide +kernel
theorem dX8_refusalOfStretch_15 : decode cX8_refusalOfStretch 15 = .ok (.iconst (-1), 1) := by decide +kernel
theorem dX8_refusalOfStretch_16 : decode cX8_refusalOfStretch 16 = .ok (.ireturn, 1) := by decide +kernel
theorem dX8_refusalOfStretch_17 : decode cX8_refusalOfStretch 17 = .ok (.aload_n 0, 1) := by decide +kernel
theorem dX8_refusalOfStretch_18 : decode cX8_refusalOfStretch 18 = .ok (.iload_n 1, 1) := by decide +kernel
theorem dX8_refusalOfStretch_19 : decode cX8_refusalOfStretch 19 = .ok (.invokevirtual 102, 3) := by decide +kernel
theorem dX8_refusalOfStretch_22 : decode cX8_refusalOfStretch 22 = .ok (.ifnonnull 11, 3) := by decide +kernel
theorem dX8_refusalOfStretch_25 : decode cX8_refusalOfStretch 25 = .ok (.aload_n 0, 1) := by decide +kernel
theorem dX8_refusalOfStretch_26 : decode cX8_refusalOfStretch 26 = .ok (.iload_n 1, 1) := by decide +kernel
theorem dX8_refusalOfStretch_27 : decode cX8_refusalOfStretch 27 = .ok (.invokevirtual 115, 3) := by decide +kernel
theorem dX8_refusalOfStretch_30 : decode cX8_refusalOfStretch 30 = .ok (.goto 4, 3) := by decide +kernel
theorem dX8_refusalOfStretch_33 : decode cX8_refusalOfStretch 33 = .ok (.iconst 0, 1) := by decide +kernel
theorem dX8_refusalOfStretch_34 : decode cX8_refusalOfStretch 34 = .ok (.ireturn, 1) := by decide +kernel
theorem dX8_repair_0 : decode cX8_repair 0 = .ok (.aload_n 0, 1) := by decide +kernel
theorem dX8_repair_1 : decode cX8_repair 1 = .ok (.iload_n 1, 1) := by decide +kernel
theorem dX8_repair_2 : decode cX8_repair 2 = .ok (.iload_n 2, 1) := by decide +kernel
theorem dX8_repair_3 : decode cX8_repair 3 = .ok (.iconst 1, 1) := by decide +kernel
theorem dX8_repair_4 : decode cX8_repair 4 = .ok (.invokevirtual 135, 3) := by decide +kernel
theorem dX8_repair_7 : decode cX8_repair 7 = .ok (.ireturn, 1) := by decide +kernel
theorem dX8_rule_0 : decode cX8_rule 0 = .ok (.iload_n 1, 1) := by decide +kernel
theorem dX8_rule_1 : decode cX8_rule 1 = .ok (.ifCond .eq 10, 3) := by decide +kernel
theorem dX8_rule_4 : decode cX8_rule 4 = .ok (.iload_n 1, 1) := by decide +kernel
theorem dX8_rule_5 : decode cX8_rule 5 = .ok (.iconst 1, 1) := by decide +kernel
theorem dX8_rule_6 : decode cX8_rule 6 = .ok (.if_icmp .eq 5, 3) := by decide +kernel
theorem dX8_rule_9 : decode cX8_rule 9 = .ok (.iconst (-1), 1) := by decide +kernel
theorem dX8_rule_10 : decode cX8_rule 10 = .ok (.ireturn, 1) := by decide +kernel
theorem dX8_rule_11 : decode cX8_rule 11 = .ok (.aload_n 0, 1) := by decide +kernel
theorem dX8_rule_12 : decode cX8_rule 12 = .ok (.getfield 58, 3) := by decide +kernel
theorem dX8_rule_15 : decode cX8_rule 15 = .ok (.iload_n 1, 1) := by decide +kernel
theorem dX8_rule_16 : decode cX8_rule 16 = .ok (.ifCond .ne 8, 3) := by decide +kernel
theorem dX8_rule_19 : decode cX8_rule 19 = .ok (.ldc 182, 2) := by decide +kernel
theorem dX8_rule_21 : decode cX8_rule 21 = .ok (.goto 5, 3) := by decide +kernel
theorem dX8_rule_24 : decode cX8_rule 24 = .ok (.ldc 184, 2) := by decide +kernel
theorem dX8_rule_26 : decode cX8_rule 26 = .ok (.invokevirtual 186, 3) := by decide +kernel
theorem dX8_rule_29 : decode cX8_rule 29 = .ok (.istore_n 2, 1) := by decide +kernel
theorem dX8_rule_30 : decode cX8_rule 30 = .ok (.aload_n 0, 1) := by decide +kernel
theorem dX8_rule_31 : decode cX8_rule 31 = .ok (.getfield 58, 3) := by decide +kernel
theorem dX8_rule_34 : decode cX8_rule 34 = .ok (.iconst 0, 1) := by decide +kernel
theorem dX8_rule_35 : decode cX8_rule 35 = .ok (.putfield 179, 3) := by decide +kernel
theorem dX8_rule_38 : decode cX8_rule 38 = .ok (.iload_n 2, 1) := by decide +kernel
theorem dX8_rule_39 : decode cX8_rule 39 = .ok (.iconst (-1), 1) := by decide +kernel
theorem dX8_rule_40 : decode cX8_rule 40 = .ok (.if_icmp .eq 8, 3) := by decide +kernel
theorem dX8_rule_43 : decode cX8_rule 43 = .ok (.bipush (-100), 2) := by decide +kernel
theorem dX8_rule_45 : decode cX8_rule 45 = .ok (.iload_n 2, 1) := by decide +kernel
theorem dX8_rule_46 : decode cX8_rule 46 = .ok (.isub, 1) := by decide +kernel
theorem dX8_rule_47 : decode cX8_rule 47 = .ok (.ireturn, 1) := by decide +kernel
theorem dX8_rule_48 : decode cX8_rule 48 = .ok (.iload_n 1, 1) := by decide +kernel
theorem dX8_rule_49 : decode cX8_rule 49 = .ok (.ifCond .ne 21, 3) := by decide +kernel
theorem dX8_rule_52 : decode cX8_rule 52 = .ok (.aload_n 0, 1) := by decide +kernel
theorem dX8_rule_53 : decode cX8_rule 53 = .ok (.aload_n 0, 1) := by decide +kernel
theorem dX8_rule_54 : decode cX8_rule 54 = .ok (.getfield 58, 3) := by decide +kernel
theorem dX8_rule_57 : decode cX8_rule 57 = .ok (.aload_n 0, 1) := by decide +kernel
theorem dX8_rule_58 : decode cX8_rule 58 = .ok (.getfield 72, 3) := by decide +kernel
theorem dX8_rule_61 : decode cX8_rule 61 = .ok (.invokevirtual 190, 3) := by decide +kernel
theorem dX8_rule_64 : decode cX8_rule 64 = .ok (.putfield 72, 3) := by decide +kernel
theorem dX8_rule_67 : decode cX8_rule 67 = .ok (.goto 18, 3) := by decide +kernel
theorem dX8_rule_70 : decode cX8_rule 70 = .ok (.aload_n 0, 1) := by decide +kernel
theorem dX8_rule_71 : decode cX8_rule 71 = .ok (.aload_n 0, 1) := by decide +kernel
theorem dX8_rule_72 : decode cX8_rule 72 = .ok (.getfield 58, 3) := by decide +kernel
theorem dX8_rule_75 : decode cX8_rule 75 = .ok (.aload_n 0, 1) := by decide +kernel
theorem dX8_rule_76 : decode cX8_rule 76 = .ok (.getfield 76, 3) := by decide +kernel
theorem dX8_rule_79 : decode cX8_rule 79 = .ok (.invokevirtual 190, 3) := by decide +kernel
theorem dX8_rule_82 : decode cX8_rule 82 = .ok (.putfield 76, 3) := by decide +kernel
theorem dX8_rule_85 : decode cX8_rule 85 = .ok (.iconst 1, 1) := by decide +kernel
theorem dX8_rule_86 : decode cX8_rule 86 = .ok (.ireturn, 1) := by decide +kernel
theorem dX8_sail_0 : decode cX8_sail 0 = .ok (.iload_n 1, 1) := by decide +kernel
theorem dX8_sail_1 : decode cX8_sail 1 = .ok (.invokestatic 202, 3) := by decide +kernel
theorem dX8_sail_4 : decode cX8_sail 4 = .ok (.ifCond .eq 42, 3) := by decide +kernel
theorem dX8_sail_7 : decode cX8_sail 7 = .ok (.iload_n 2, 1) := by decide +kernel
theorem dX8_sail_8 : decode cX8_sail 8 = .ok (.invokestatic 92, 3) := by decide +kernel
theorem dX8_sail_11 : decode cX8_sail 11 = .ok (.ifCond .eq 35, 3) := by decide +kernel
theorem dX8_sail_14 : decode cX8_sail 14 = .ok (.iload_n 3, 1) := by decide +kernel
theorem dX8_sail_15 : decode cX8_sail 15 = .ok (.invokestatic 92, 3) := by decide +kernel
theorem dX8_sail_18 : decode cX8_sail 18 = .ok (.ifCond .eq 28, 3) := by decide +kernel
theorem dX8_sail_21 : decode cX8_sail 21 = .ok (.iload 4, 2) := by decide +kernel
theorem dX8_sail_23 : decode cX8_sail 23 = .ok (.invokestatic 92, 3) := by decide +kernel
theorem dX8_sail_26 : decode cX8_sail 26 = .ok (.ifCond .eq 20, 3) := by decide +kernel
theorem dX8_sail_29 : decode cX8_sail 29 = .ok (.iload_n 2, 1) := by decide +kernel
theorem dX8_sail_30 : decode cX8_sail 30 = .ok (.iload_n 3, 1) := by decide +kernel
theorem dX8_sail_31 : decode cX8_sail 31 = .ok (.if_icmp .eq 15, 3) := by decide +kernel
theorem dX8_sail_34 : decode cX8_sail 34 = .ok (.iload_n 2, 1) := by decide +kernel
theorem dX8_sail_35 : decode cX8_sail 35 = .ok (.iload 4, 2) := by decide +kernel
theorem dX8_sail_37 : decode cX8_sail 37 = .ok (.if_icmp .eq 9, 3) := by decide +kernel
theorem dX8_sail_40 : decode cX8_sail 40 = .ok (.iload_n 3, 1) := by decide +kernel
theorem dX8_sail_41 : decode cX8_sail 41 = .ok (.iload 4, 2) := by decide +kernel
theorem dX8_sail_43 : decode cX8_sail 43 = .ok (.if_icmp .ne 5, 3) := by decide +kernel
theorem dX8_sail_46 : decode cX8_sail 46 = .ok (.iconst (-1), 1) := by decide +kernel
theorem dX8_sail_47 : decode cX8_sail 47 = .ok (.ireturn, 1) := by decide +kernel
theorem dX8_sail_48 : decode cX8_sail 48 = .ok (.aload_n 0, 1) := by decide +kernel
theorem dX8_sail_49 : decode cX8_sail 49 = .ok (.iload_n 2, 1) := by decide +kernel
theorem dX8_sail_50 : decode cX8_sail 50 = .ok (.iload_n 3, 1) := by decide +kernel
theorem dX8_sail_51 : decode cX8_sail 51 = .ok (.iload 4, 2) := by decide +kernel
theorem dX8_sail_53 : decode cX8_sail 53 = .ok (.invokevirtual 205, 3) := by decide +kernel
theorem dX8_sail_56 : decode cX8_sail 56 = .ok (.istore 5, 2) := by decide +kernel
theorem dX8_sail_58 : decode cX8_sail 58 = .ok (.iload 5, 2) := by decide +kernel
theorem dX8_sail_60 : decode cX8_sail 60 = .ok (.ifCond .eq 6, 3) := by decide +kernel
theorem dX8_sail_63 : decode cX8_sail 63 = .ok (.iload 5, 2) := by decide +kernel
theorem dX8_sail_65 : decode cX8_sail 65 = .ok (.ireturn, 1) := by decide +kernel
theorem dX8_sail_66 : decode cX8_sail 66 = .ok (.aload_n 0, 1) := by decide +kernel
theorem dX8_sail_67 : decode cX8_sail 67 = .ok (.getfield 27, 3) := by decide +kernel
theorem dX8_sail_70 : decode cX8_sail 70 = .ok (.iload_n 1, 1) := by decide +kernel
theorem dX8_sail_71 : decode cX8_sail 71 = .ok (.aaload, 1) := by decide +kernel
theorem dX8_sail_72 : decode cX8_sail 72 = .ok (.astore 6, 2) := by decide +kernel
theorem dX8_sail_74 : decode cX8_sail 74 = .ok (.aload 6, 2) := by decide +kernel
theorem dX8_sail_76 : decode cX8_sail 76 = .ok (.getfield 208, 3) := by decide +kernel
theorem dX8_sail_79 : decode cX8_sail 79 = .ok (.iconst 1, 1) := by decide +kernel
theorem dX8_sail_80 : decode cX8_sail 80 = .ok (.if_icmp .eq 28, 3) := by decide +kernel
theorem dX8_sail_83 : decode cX8_sail 83 = .ok (.aload_n 0, 1) := by decide +kernel
theorem dX8_sail_84 : decode cX8_sail 84 = .ok (.iload_n 2, 1) := by decide +kernel
theorem dX8_sail_85 : decode cX8_sail 85 = .ok (.invokevirtual 211, 3) := by decide +kernel
theorem dX8_sail_88 : decode cX8_sail 88 = .ok (.ifCond .eq 20, 3) := by decide +kernel
theorem dX8_sail_91 : decode cX8_sail 91 = .ok (.aload_n 0, 1) := by decide +kernel
theorem dX8_sail_92 : decode cX8_sail 92 = .ok (.iload_n 3, 1) := by decide +kernel
theorem dX8_sail_93 : decode cX8_sail 93 = .ok (.invokevirtual 211, 3) := by decide +kernel
theorem dX8_sail_96 : decode cX8_sail 96 = .ok (.ifCond .eq 12, 3) := by decide +kernel
theorem dX8_sail_99 : decode cX8_sail 99 = .ok (.aload_n 0, 1) := by decide +kernel
theorem dX8_sail_100 : decode cX8_sail 100 = .ok (.iload 4, 2) := by decide +kernel
theorem dX8_sail_102 : decode cX8_sail 102 = .ok (.invokevirtual 211, 3) := by decide +kernel
theorem dX8_sail_105 : decode cX8_sail 105 = .ok (.ifCond .ne 6, 3) := by decide +kernel
theorem dX8_sail_108 : decode cX8_sail 108 = .ok (.bipush (-4), 2) := by decide +kernel
theorem dX8_sail_110 : decode cX8_sail 110 = .ok (.ireturn, 1) := by decide +kernel
theorem dX8_sail_111 : decode cX8_sail 111 = .ok (.aload 6, 2) := by decide +kernel
theorem dX8_sail_113 : decode cX8_sail 113 = .ok (.aload_n 0, 1) := by decide +kernel
theorem dX8_sail_114 : decode cX8_sail 114 = .ok (.getfield 79, 3) := by decide +kernel
theorem dX8_sail_117 : decode cX8_sail 117 = .ok (.invokevirtual 214, 3) := by decide +kernel
theorem dX8_sail_120 : decode cX8_sail 120 = .ok (.aload_n 0, 1) := by decide +kernel
theorem dX8_sail_121 : decode cX8_sail 121 = .ok (.iload_n 1, 1) := by decide +kernel
theorem dX8_sail_122 : decode cX8_sail 122 = .ok (.iconst 0, 1) := by decide +kernel
theorem dX8_sail_123 : decode cX8_sail 123 = .ok (.iload_n 2, 1) := by decide +kernel
theorem dX8_sail_124 : decode cX8_sail 124 = .ok (.invokevirtual 217, 3) := by decide +kernel
theorem dX8_sail_127 : decode cX8_sail 127 = .ok (.aload_n 0, 1) := by decide +kernel
theorem dX8_sail_128 : decode cX8_sail 128 = .ok (.iload_n 1, 1) := by decide +kernel
theorem dX8_sail_129 : decode cX8_sail 129 = .ok (.iconst 1, 1) := by decide +kernel
theorem dX8_sail_130 : decode cX8_sail 130 = .ok (.iload_n 3, 1) := by decide +kernel
theorem dX8_sail_131 : decode cX8_sail 131 = .ok (.invokevirtual 217, 3) := by decide +kernel
theorem dX8_sail_134 : decode cX8_sail 134 = .ok (.aload_n 0, 1) := by decide +kernel
theorem dX8_sail_135 : decode cX8_sail 135 = .ok (.iload_n 1, 1) := by decide +kernel
theorem dX8_sail_136 : decode cX8_sail 136 = .ok (.iconst 2, 1) := by decide +kernel
theorem dX8_sail_137 : decode cX8_sail 137 = .ok (.iload 4, 2) := by decide +kernel
theorem dX8_sail_139 : decode cX8_sail 139 = .ok (.invokevirtual 217, 3) := by decide +kernel
theorem dX8_sail_142 : decode cX8_sail 142 = .ok (.iconst 1, 1) := by decide +kernel
theorem dX8_sail_143 : decode cX8_sail 143 = .ok (.ireturn, 1) := by decide +kernel
theorem dX8_shipsAtSea_0 : decode cX8_shipsAtSea 0 = .ok (.iconst 0, 1) := by decide +kernel
theorem dX8_shipsAtSea_1 : decode cX8_shipsAtSea 1 = .ok (.istore_n 1, 1) := by decide +kernel
theorem dX8_shipsAtSea_2 : decode cX8_shipsAtSea 2 = .ok (.iconst 0, 1) := by decide +kernel
theorem dX8_shipsAtSea_3 : decode cX8_shipsAtSea 3 = .ok (.istore_n 2, 1) := by decide +kernel
theorem dX8_shipsAtSea_4 : decode cX8_shipsAtSea 4 = .ok (.iload_n 2, 1) := by decide +kernel
theorem dX8_shipsAtSea_5 : decode cX8_shipsAtSea 5 = .ok (.iconst 5, 1) := by decide +kernel
theorem dX8_shipsAtSea_6 : decode cX8_shipsAtSea 6 = .ok (.if_icmp .ge 25, 3) := by decide +kernel
theorem dX8_shipsAtSea_9 : decode cX8_shipsAtSea 9 = .ok (.aload_n 0, 1) := by decide +kernel
theorem dX8_shipsAtSea_10 : decode cX8_shipsAtSea 10 = .ok (.getfield 27, 3) := by decide +kernel
theorem dX8_shipsAtSea_13 : decode cX8_shipsAtSea 13 = .ok (.iload_n 2, 1) := by decide +kernel
theorem dX8_shipsAtSea_14 : decode cX8_shipsAtSea 14 = .ok (.aaload, 1) := by decide +kernel
theorem dX8_shipsAtSea_15 : decode cX8_shipsAtSea 15 = .ok (.getfield 208, 3) := by decide +kernel
theorem dX8_shipsAtSea_18 : decode cX8_shipsAtSea 18 = .ok (.iconst 1, 1) := by decide +kernel
theorem dX8_shipsAtSea_19 : decode cX8_shipsAtSea 19 = .ok (.if_icmp .ne 6, 3) := by decide +kernel
theorem dX8_shipsAtSea_22 : decode cX8_shipsAtSea 22 = .ok (.iinc 1 1, 3) := by decide +kernel
theorem dX8_shipsAtSea_25 : decode cX8_shipsAtSea 25 = .ok (.iinc 2 1, 3) := by decide +kernel
theorem dX8_shipsAtSea_28 : decode cX8_shipsAtSea 28 = .ok (.goto (-24), 3) := by decide +kernel
theorem dX8_shipsAtSea_31 : decode cX8_shipsAtSea 31 = .ok (.iload_n 1, 1) := by decide +kernel
theorem dX8_shipsAtSea_32 : decode cX8_shipsAtSea 32 = .ok (.ireturn, 1) := by decide +kernel
theorem dX8_sight_0 : decode cX8_sight 0 = .ok (.iload_n 1, 1) := by decide +kernel
theorem dX8_sight_1 : decode cX8_sight 1 = .ok (.invokestatic 202, 3) := by decide +kernel
theorem dX8_sight_4 : decode cX8_sight 4 = .ok (.ifCond .eq 40, 3) := by decide +kernel
theorem dX8_sight_7 : decode cX8_sight 7 = .ok (.aload_n 0, 1) := by decide +kernel
theorem dX8_sight_8 : decode cX8_sight 8 = .ok (.iload_n 2, 1) := by decide +kernel
theorem dX8_sight_9 : decode cX8_sight 9 = .ok (.invokevirtual 111, 3) := by decide +kernel
theorem dX8_sight_12 : decode cX8_sight 12 = .ok (.ifCond .eq 32, 3) := by decide +kernel
theorem dX8_sight_15 : decode cX8_sight 15 = .ok (.iload_n 3, 1) := by decide +kernel
theorem dX8_sight_16 : decode cX8_sight 16 = .ok (.ldc 232, 2) := by decide +kernel
theorem dX8_sight_18 : decode cX8_sight 18 = .ok (.invokestatic 88, 3) := by decide +kernel
theorem dX8_sight_21 : decode cX8_sight 21 = .ok (.ifCond .eq 23, 3) := by decide +kernel
theorem dX8_sight_24 : decode cX8_sight 24 = .ok (.iload 4, 2) := by decide +kernel
theorem dX8_sight_26 : decode cX8_sight 26 = .ok (.ldc 232, 2) := by decide +kernel
theorem dX8_sight_28 : decode cX8_sight 28 = .ok (.invokestatic 88, 3) := by decide +kernel
theorem dX8_sight_31 : decode cX8_sight 31 = .ok (.ifCond .eq 13, 3) := by decide +kernel
theorem dX8_sight_34 : decode cX8_sight 34 = .ok (.iload 5, 2) := by decide +kernel
theorem dX8_sight_36 : decode cX8_sight 36 = .ok (.ldc 232, 2) := by decide +kernel
theorem dX8_sight_38 : decode cX8_sight 38 = .ok (.invokestatic 88, 3) := by decide +kernel
theorem dX8_sight_41 : decode cX8_sight 41 = .ok (.ifCond .ne 5, 3) := by decide +kernel
theorem dX8_sight_44 : decode cX8_sight 44 = .ok (.iconst (-1), 1) := by decide +kernel
theorem dX8_sight_45 : decode cX8_sight 45 = .ok (.ireturn, 1) := by decide +kernel
theorem dX8_sight_46 : decode cX8_sight 46 = .ok (.aload_n 0, 1) := by decide +kernel
theorem dX8_sight_47 : decode cX8_sight 47 = .ok (.getfield 27, 3) := by decide +kernel
theorem dX8_sight_50 : decode cX8_sight 50 = .ok (.iload_n 1, 1) := by decide +kernel
theorem dX8_sight_51 : decode cX8_sight 51 = .ok (.aaload, 1) := by decide +kernel
theorem dX8_sight_52 : decode cX8_sight 52 = .ok (.astore 6, 2) := by decide +kernel
theorem dX8_sight_54 : decode cX8_sight 54 = .ok (.aload 6, 2) := by decide +kernel
theorem dX8_sight_56 : decode cX8_sight 56 = .ok (.iload_n 2, 1) := by decide +kernel
theorem dX8_sight_57 : decode cX8_sight 57 = .ok (.invokevirtual 233, 3) := by decide +kernel
theorem dX8_sight_60 : decode cX8_sight 60 = .ok (.ifCond .ne 5, 3) := by decide +kernel
theorem dX8_sight_63 : decode cX8_sight 63 = .ok (.iconst (-1), 1) := by decide +kernel
theorem dX8_sight_64 : decode cX8_sight 64 = .ok (.ireturn, 1) := by decide +kernel
theorem dX8_sight_65 : decode cX8_sight 65 = .ok (.aload 6, 2) := by decide +kernel
theorem dX8_sight_67 : decode cX8_sight 67 = .ok (.getfield 208, 3) := by decide +kernel
theorem dX8_sight_70 : decode cX8_sight 70 = .ok (.iconst 1, 1) := by decide +kernel
theorem dX8_sight_71 : decode cX8_sight 71 = .ok (.if_icmp .eq 6, 3) := by decide +kernel
theorem dX8_sight_74 : decode cX8_sight 74 = .ok (.bipush (-4), 2) := by decide +kernel
theorem dX8_sight_76 : decode cX8_sight 76 = .ok (.ireturn, 1) := by decide +kernel
theorem dX8_sight_77 : decode cX8_sight 77 = .ok (.aload 6, 2) := by decide +kernel
theorem dX8_sight_79 : decode cX8_sight 79 = .ok (.getfield 236, 3) := by decide +kernel
theorem dX8_sight_82 : decode cX8_sight 82 = .ok (.bipush 40, 2) := by decide +kernel
theorem dX8_sight_84 : decode cX8_sight 84 = .ok (.if_icmp .lt 6, 3) := by decide +kernel
theorem dX8_sight_87 : decode cX8_sight 87 = .ok (.bipush (-5), 2) := by decide +kernel
theorem dX8_sight_89 : decode cX8_sight 89 = .ok (.ireturn, 1) := by decide +kernel
theorem dX8_sight_90 : decode cX8_sight 90 = .ok (.aload 6, 2) := by decide +kernel
theorem dX8_sight_92 : decode cX8_sight 92 = .ok (.iload_n 2, 1) := by decide +kernel
theorem dX8_sight_93 : decode cX8_sight 93 = .ok (.iload_n 3, 1) := by decide +kernel
theorem dX8_sight_94 : decode cX8_sight 94 = .ok (.iload 4, 2) := by decide +kernel
theorem dX8_sight_96 : decode cX8_sight 96 = .ok (.iload 5, 2) := by decide +kernel
theorem dX8_sight_98 : decode cX8_sight 98 = .ok (.invokevirtual 239, 3) := by decide +kernel
theorem dX8_sight_101 : decode cX8_sight 101 = .ok (.ireturn, 1) := by decide +kernel
theorem dX8_state_0 : decode cX8_state 0 = .ok (.iload_n 1, 1) := by decide +kernel
theorem dX8_state_1 : decode cX8_state 1 = .ok (.invokestatic 202, 3) := by decide +kernel
theorem dX8_state_4 : decode cX8_state 4 = .ok (.ifCond .eq 15, 3) := by decide +kernel
theorem dX8_state_7 : decode cX8_state 7 = .ok (.aload_n 0, 1) := by decide +kernel
theorem dX8_state_8 : decode cX8_state 8 = .ok (.getfield 27, 3) := by decide +kernel
theorem dX8_state_11 : decode cX8_state 11 = .ok (.iload_n 1, 1) := by decide +kernel
theorem dX8_state_12 : decode cX8_state 12 = .ok (.aaload, 1) := by decide +kernel
theorem dX8_state_13 : decode cX8_state 13 = .ok (.getfield 208, 3) := by decide +kernel
theorem dX8_state_16 : decode cX8_state 16 = .ok (.goto 4, 3) := by decide +kernel
theorem dX8_state_19 : decode cX8_state 19 = .ok (.iconst (-1), 1) := by decide +kernel
theorem dX8_state_20 : decode cX8_state 20 = .ok (.ireturn, 1) := by decide +kernel
theorem dX8_take_0 : decode cX8_take 0 = .ok (.iload_n 1, 1) := by decide +kernel
theorem dX8_take_1 : decode cX8_take 1 = .ok (.invokestatic 92, 3) := by decide +kernel
theorem dX8_take_4 : decode cX8_take 4 = .ok (.ifCond .ne 5, 3) := by decide +kernel
theorem dX8_take_7 : decode cX8_take 7 = .ok (.iconst (-1), 1) := by decide +kernel
theorem dX8_take_8 : decode cX8_take 8 = .ok (.ireturn, 1) := by decide +kernel
theorem dX8_take_9 : decode cX8_take 9 = .ok (.aload_n 0, 1) := by decide +kernel
theorem dX8_take_10 : decode cX8_take 10 = .ok (.getfield 13, 3) := by decide +kernel
theorem dX8_take_13 : decode cX8_take 13 = .ok (.iload_n 1, 1) := by decide +kernel
theorem dX8_take_14 : decode cX8_take 14 = .ok (.iaload, 1) := by decide +kernel
theorem dX8_take_15 : decode cX8_take 15 = .ok (.bipush (-5), 2) := by decide +kernel
theorem dX8_take_17 : decode cX8_take 17 = .ok (.if_icmp .ne 6, 3) := by decide +kernel
theorem dX8_take_20 : decode cX8_take 20 = .ok (.bipush (-2), 2) := by decide +kernel
theorem dX8_take_22 : decode cX8_take 22 = .ok (.ireturn, 1) := by decide +kernel
theorem dX8_take_23 : decode cX8_take 23 = .ok (.aload_n 0, 1) := by decide +kernel
theorem dX8_take_24 : decode cX8_take 24 = .ok (.iload_n 1, 1) := by decide +kernel
theorem dX8_take_25 : decode cX8_take 25 = .ok (.invokevirtual 102, 3) := by decide +kernel
theorem dX8_take_28 : decode cX8_take 28 = .ok (.astore_n 2, 1) := by decide +kernel
theorem dX8_take_29 : decode cX8_take 29 = .ok (.aload_n 2, 1) := by decide +kernel
theorem dX8_take_30 : decode cX8_take 30 = .ok (.ifnull 18, 3) := by decide +kernel
theorem dX8_take_33 : decode cX8_take 33 = .ok (.aload_n 2, 1) := by decide +kernel
theorem dX8_take_34 : decode cX8_take 34 = .ok (.aload_n 0, 1) := by decide +kernel
theorem dX8_take_35 : decode cX8_take 35 = .ok (.getfield 79, 3) := by decide +kernel
theorem dX8_take_38 : decode cX8_take 38 = .ok (.invokevirtual 106, 3) := by decide +kernel
theorem dX8_take_41 : decode cX8_take 41 = .ok (.iconst (-1), 1) := by decide +kernel
theorem dX8_take_42 : decode cX8_take 42 = .ok (.if_icmp .eq 6, 3) := by decide +kernel
theorem dX8_take_45 : decode cX8_take 45 = .ok (.bipush (-4), 2) := by decide +kernel
theorem dX8_take_47 : decode cX8_take 47 = .ok (.ireturn, 1) := by decide +kernel
theorem dX8_take_48 : decode cX8_take 48 = .ok (.aload_n 0, 1) := by decide +kernel
theorem dX8_take_49 : decode cX8_take 49 = .ok (.getfield 13, 3) := by decide +kernel
theorem dX8_take_52 : decode cX8_take 52 = .ok (.iload_n 1, 1) := by decide +kernel
theorem dX8_take_53 : decode cX8_take 53 = .ok (.bipush (-5), 2) := by decide +kernel
theorem dX8_take_55 : decode cX8_take 55 = .ok (.iastore, 1) := by decide +kernel
theorem dX8_take_56 : decode cX8_take 56 = .ok (.iconst 1, 1) := by decide +kernel
theorem dX8_take_57 : decode cX8_take 57 = .ok (.ireturn, 1) := by decide +kernel
theorem dX8_terms_0 : decode cX8_terms 0 = .ok (.aload_n 0, 1) := by decide +kernel
theorem dX8_terms_1 : decode cX8_terms 1 = .ok (.iload_n 1, 1) := by decide +kernel
theorem dX8_terms_2 : decode cX8_terms 2 = .ok (.iload_n 2, 1) := by decide +kernel
theorem dX8_terms_3 : decode cX8_terms 3 = .ok (.iload_n 3, 1) := by decide +kernel
theorem dX8_terms_4 : decode cX8_terms 4 = .ok (.invokevirtual 152, 3) := by decide +kernel
theorem dX8_terms_7 : decode cX8_terms 7 = .ok (.istore 4, 2) := by decide +kernel
theorem dX8_terms_9 : decode cX8_terms 9 = .ok (.iload 4, 2) := by decide +kernel
theorem dX8_terms_11 : decode cX8_terms 11 = .ok (.ifCond .eq 6, 3) := by decide +kernel
theorem dX8_terms_14 : decode cX8_terms 14 = .ok (.iload 4, 2) := by decide +kernel
theorem dX8_terms_16 : decode cX8_terms 16 = .ok (.ireturn, 1) := by decide +kernel
theorem dX8_terms_17 : decode cX8_terms 17 = .ok (.aload_n 0, 1) := by decide +kernel
theorem dX8_terms_18 : decode cX8_terms 18 = .ok (.iload_n 1, 1) := by decide +kernel
theorem dX8_terms_19 : decode cX8_terms 19 = .ok (.iload_n 2, 1) := by decide +kernel
theorem dX8_terms_20 : decode cX8_terms 20 = .ok (.iload_n 3, 1) := by decide +kernel
theorem dX8_terms_21 : decode cX8_terms 21 = .ok (.invokevirtual 155, 3) := by decide +kernel
theorem dX8_terms_24 : decode cX8_terms 24 = .ok (.aload_n 0, 1) := by decide +kernel
theorem dX8_terms_25 : decode cX8_terms 25 = .ok (.getfield 51, 3) := by decide +kernel
theorem dX8_terms_28 : decode cX8_terms 28 = .ok (.invokevirtual 158, 3) := by decide +kernel
theorem dX8_terms_31 : decode cX8_terms 31 = .ok (.ifCond .ne 8, 3) := by decide +kernel
theorem dX8_terms_34 : decode cX8_terms 34 = .ok (.bipush (-4), 2) := by decide +kernel
theorem dX8_terms_36 : decode cX8_terms 36 = .ok (.goto 10, 3) := by decide +kernel
theorem dX8_terms_39 : decode cX8_terms 39 = .ok (.aload_n 0, 1) := by decide +kernel
theorem dX8_terms_40 : decode cX8_terms 40 = .ok (.getfield 51, 3) := by decide +kernel
theorem dX8_terms_43 : decode cX8_terms 43 = .ok (.invokevirtual 161, 3) := by decide +kernel
theorem dX8_terms_46 : decode cX8_terms 46 = .ok (.ireturn, 1) := by decide +kernel
theorem dX8_told_0 : decode cX8_told 0 = .ok (.iload_n 1, 1) := by decide +kernel
theorem dX8_told_1 : decode cX8_told 1 = .ok (.invokestatic 202, 3) := by decide +kernel
theorem dX8_told_4 : decode cX8_told 4 = .ok (.ifCond .eq 30, 3) := by decide +kernel
theorem dX8_told_7 : decode cX8_told 7 = .ok (.iload_n 2, 1) := by decide +kernel
theorem dX8_told_8 : decode cX8_told 8 = .ok (.ifCond .lt 26, 3) := by decide +kernel
theorem dX8_told_11 : decode cX8_told 11 = .ok (.iload_n 2, 1) := by decide +kernel
theorem dX8_told_12 : decode cX8_told 12 = .ok (.aload_n 0, 1) := by decide +kernel
theorem dX8_told_13 : decode cX8_told 13 = .ok (.getfield 27, 3) := by decide +kernel
theorem dX8_told_16 : decode cX8_told 16 = .ok (.iload_n 1, 1) := by decide +kernel
theorem dX8_told_17 : decode cX8_told 17 = .ok (.aaload, 1) := by decide +kernel
theorem dX8_told_18 : decode cX8_told 18 = .ok (.getfield 236, 3) := by decide +kernel
theorem dX8_told_21 : decode cX8_told 21 = .ok (.if_icmp .ge 13, 3) := by decide +kernel
theorem dX8_told_24 : decode cX8_told 24 = .ok (.iload_n 3, 1) := by decide +kernel
theorem dX8_told_25 : decode cX8_told 25 = .ok (.ifCond .lt 9, 3) := by decide +kernel
theorem dX8_told_28 : decode cX8_told 28 = .ok (.iload_n 3, 1) := by decide +kernel
theorem dX8_told_29 : decode cX8_told 29 = .ok (.bipush 9, 2) := by decide +kernel
theorem dX8_told_31 : decode cX8_told 31 = .ok (.if_icmp .le 6, 3) := by decide +kernel
theorem dX8_told_34 : decode cX8_told 34 = .ok (.ldc 110, 2) := by decide +kernel
theorem dX8_told_36 : decode cX8_told 36 = .ok (.ireturn, 1) := by decide +kernel
theorem dX8_told_37 : decode cX8_told 37 = .ok (.aload_n 0, 1) := by decide +kernel
theorem dX8_told_38 : decode cX8_told 38 = .ok (.getfield 27, 3) := by decide +kernel
theorem dX8_told_41 : decode cX8_told 41 = .ok (.iload_n 1, 1) := by decide +kernel
theorem dX8_told_42 : decode cX8_told 42 = .ok (.aaload, 1) := by decide +kernel
theorem dX8_told_43 : decode cX8_told 43 = .ok (.astore 4, 2) := by decide +kernel
theorem dX8_told_45 : decode cX8_told 45 = .ok (.iload_n 3, 1) := by decide +kernel
theorem dX8_told_46 : decode cX8_told 46 = .ok (.ifCond .ne 11, 3) := by decide +kernel
theorem dX8_told_49 : decode cX8_told 49 = .ok (.aload 4, 2) := by decide +kernel
theorem dX8_told_51 : decode cX8_told 51 = .ok (.getfield 243, 3) := by decide +kernel
theorem dX8_told_54 : decode cX8_told 54 = .ok (.iload_n 2, 1) := by decide +kernel
theorem dX8_told_55 : decode cX8_told 55 = .ok (.iaload, 1) := by decide +kernel
theorem dX8_told_56 : decode cX8_told 56 = .ok (.ireturn, 1) := by decide +kernel
theorem dX8_told_57 : decode cX8_told 57 = .ok (.iload_n 3, 1) := by decide +kernel
theorem dX8_told_58 : decode cX8_told 58 = .ok (.bipush 7, 2) := by decide +kernel
theorem dX8_told_60 : decode cX8_told 60 = .ok (.if_icmp .lt 14, 3) := by decide +kernel
theorem dX8_told_63 : decode cX8_told 63 = .ok (.aload 4, 2) := by decide +kernel
theorem dX8_told_65 : decode cX8_told 65 = .ok (.iload_n 2, 1) := by decide +kernel
theorem dX8_told_66 : decode cX8_told 66 = .ok (.iload_n 3, 1) := by decide +kernel
theorem dX8_told_67 : decode cX8_told 67 = .ok (.bipush 7, 2) := by decide +kernel
theorem dX8_told_69 : decode cX8_told 69 = .ok (.isub, 1) := by decide +kernel
theorem dX8_told_70 : decode cX8_told 70 = .ok (.invokevirtual 246, 3) := by decide +kernel
theorem dX8_told_73 : decode cX8_told 73 = .ok (.ireturn, 1) := by decide +kernel
theorem dX8_told_74 : decode cX8_told 74 = .ok (.iload_n 3, 1) := by decide +kernel
theorem dX8_told_75 : decode cX8_told 75 = .ok (.iconst 4, 1) := by decide +kernel
theorem dX8_told_76 : decode cX8_told 76 = .ok (.if_icmp .lt 13, 3) := by decide +kernel
theorem dX8_told_79 : decode cX8_told 79 = .ok (.aload 4, 2) := by decide +kernel
theorem dX8_told_81 : decode cX8_told 81 = .ok (.iload_n 2, 1) := by decide +kernel
theorem dX8_told_82 : decode cX8_told 82 = .ok (.iload_n 3, 1) := by decide +kernel
theorem dX8_told_83 : decode cX8_told 83 = .ok (.iconst 4, 1) := by decide +kernel
theorem dX8_told_84 : decode cX8_told 84 = .ok (.isub, 1) := by decide +kernel
theorem dX8_told_85 : decode cX8_told 85 = .ok (.invokevirtual 249, 3) := by decide +kernel
theorem dX8_told_88 : decode cX8_told 88 = .ok (.ireturn, 1) := by decide +kernel
theorem dX8_told_89 : decode cX8_told 89 = .ok (.aload_n 0, 1) := by decide +kernel
theorem dX8_told_90 : decode cX8_told 90 = .ok (.aload 4, 2) := by decide +kernel
theorem dX8_told_92 : decode cX8_told 92 = .ok (.iload_n 2, 1) := by decide +kernel
theorem dX8_told_93 : decode cX8_told 93 = .ok (.invokevirtual 252, 3) := by decide +kernel
theorem dX8_told_96 : decode cX8_told 96 = .ok (.istore 5, 2) := by decide +kernel
theorem dX8_told_98 : decode cX8_told 98 = .ok (.iload_n 3, 1) := by decide +kernel
theorem dX8_told_99 : decode cX8_told 99 = .ok (.iconst 1, 1) := by decide +kernel
theorem dX8_told_100 : decode cX8_told 100 = .ok (.if_icmp .ne 6, 3) := by decide +kernel
theorem dX8_told_103 : decode cX8_told 103 = .ok (.iload 5, 2) := by decide +kernel
theorem dX8_told_105 : decode cX8_told 105 = .ok (.ireturn, 1) := by decide +kernel
theorem dX8_told_106 : decode cX8_told 106 = .ok (.aload 4, 2) := by decide +kernel
theorem dX8_told_108 : decode cX8_told 108 = .ok (.iload_n 2, 1) := by decide +kernel
theorem dX8_told_109 : decode cX8_told 109 = .ok (.iload 5, 2) := by decide +kernel
theorem dX8_told_111 : decode cX8_told 111 = .ok (.invokevirtual 256, 3) := by decide +kernel
theorem dX8_told_114 : decode cX8_told 114 = .ok (.istore 6, 2) := by decide +kernel
theorem dX8_told_116 : decode cX8_told 116 = .ok (.aload 4, 2) := by decide +kernel
theorem dX8_told_118 : decode cX8_told 118 = .ok (.iload_n 2, 1) := by decide +kernel
theorem dX8_told_119 : decode cX8_told 119 = .ok (.iload 5, 2) := by decide +kernel
theorem dX8_told_121 : decode cX8_told 121 = .ok (.invokevirtual 259, 3) := by decide +kernel
theorem dX8_told_124 : decode cX8_told 124 = .ok (.istore 7, 2) := by decide +kernel
theorem dX8_told_126 : decode cX8_told 126 = .ok (.iload 7, 2) := by decide +kernel
theorem dX8_told_128 : decode cX8_told 128 = .ok (.iload 6, 2) := by decide +kernel
theorem dX8_told_130 : decode cX8_told 130 = .ok (.if_icmp .ge 6, 3) := by decide +kernel
theorem dX8_told_133 : decode cX8_told 133 = .ok (.ldc 110, 2) := by decide +kernel
theorem dX8_told_135 : decode cX8_told 135 = .ok (.ireturn, 1) := by decide +kernel
theorem dX8_told_136 : decode cX8_told 136 = .ok (.iload_n 3, 1) := by decide +kernel
theorem dX8_told_137 : decode cX8_told 137 = .ok (.iconst 2, 1) := by decide +kernel
theorem dX8_told_138 : decode cX8_told 138 = .ok (.if_icmp .ne 8, 3) := by decide +kernel
theorem dX8_told_141 : decode cX8_told 141 = .ok (.iload 6, 2) := by decide +kernel
theorem dX8_told_143 : decode cX8_told 143 = .ok (.goto 5, 3) := by decide +kernel
theorem dX8_told_146 : decode cX8_told 146 = .ok (.iload 7, 2) := by decide +kernel
theorem dX8_told_148 : decode cX8_told 148 = .ok (.ireturn, 1) := by decide +kernel
theorem dX8_trial_0 : decode cX8_trial 0 = .ok (.aload_n 0, 1) := by decide +kernel
theorem dX8_trial_1 : decode cX8_trial 1 = .ok (.iload_n 1, 1) := by decide +kernel
theorem dX8_trial_2 : decode cX8_trial 2 = .ok (.iload_n 2, 1) := by decide +kernel
theorem dX8_trial_3 : decode cX8_trial 3 = .ok (.iload_n 3, 1) := by decide +kernel
theorem dX8_trial_4 : decode cX8_trial 4 = .ok (.invokevirtual 152, 3) := by decide +kernel
theorem dX8_trial_7 : decode cX8_trial 7 = .ok (.ifCond .ne 13, 3) := by decide +kernel
theorem dX8_trial_10 : decode cX8_trial 10 = .ok (.aload_n 0, 1) := by decide +kernel
theorem dX8_trial_11 : decode cX8_trial 11 = .ok (.iload_n 1, 1) := by decide +kernel
theorem dX8_trial_12 : decode cX8_trial 12 = .ok (.iload_n 2, 1) := by decide +kernel
theorem dX8_trial_13 : decode cX8_trial 13 = .ok (.iload_n 3, 1) := by decide +kernel
theorem dX8_trial_14 : decode cX8_trial 14 = .ok (.invokevirtual 194, 3) := by decide +kernel
theorem dX8_trial_17 : decode cX8_trial 17 = .ok (.ifCond .ne 6, 3) := by decide +kernel
theorem dX8_trial_20 : decode cX8_trial 20 = .ok (.ldc 110, 2) := by decide +kernel
theorem dX8_trial_22 : decode cX8_trial 22 = .ok (.ireturn, 1) := by decide +kernel
theorem dX8_trial_23 : decode cX8_trial 23 = .ok (.aload_n 0, 1) := by decide +kernel
theorem dX8_trial_24 : decode cX8_trial 24 = .ok (.iload_n 1, 1) := by decide +kernel
theorem dX8_trial_25 : decode cX8_trial 25 = .ok (.iload_n 3, 1) := by decide +kernel
theorem dX8_trial_26 : decode cX8_trial 26 = .ok (.iload_n 2, 1) := by decide +kernel
theorem dX8_trial_27 : decode cX8_trial 27 = .ok (.isub, 1) := by decide +kernel
theorem dX8_trial_28 : decode cX8_trial 28 = .ok (.invokevirtual 198, 3) := by decide +kernel
theorem dX8_trial_31 : decode cX8_trial 31 = .ok (.ireturn, 1) := by decide +kernel
theorem dX8_unload_0 : decode cX8_unload 0 = .ok (.iload_n 2, 1) := by decide +kernel
theorem dX8_unload_1 : decode cX8_unload 1 = .ok (.ifCond .lt 8, 3) := by decide +kernel
theorem dX8_unload_4 : decode cX8_unload 4 = .ok (.iload_n 2, 1) := by decide +kernel
theorem dX8_unload_5 : decode cX8_unload 5 = .ok (.iconst 3, 1) := by decide +kernel
theorem dX8_unload_6 : decode cX8_unload 6 = .ok (.if_icmp .lt 4, 3) := by decide +kernel
theorem dX8_unload_9 : decode cX8_unload 9 = .ok (.return_, 1) := by decide +kernel
theorem dX8_unload_10 : decode cX8_unload 10 = .ok (.aload_n 1, 1) := by decide +kernel
theorem dX8_unload_11 : decode cX8_unload 11 = .ok (.getfield 368, 3) := by decide +kernel
theorem dX8_unload_14 : decode cX8_unload 14 = .ok (.iload_n 2, 1) := by decide +kernel
theorem dX8_unload_15 : decode cX8_unload 15 = .ok (.iload_n 3, 1) := by decide +kernel
theorem dX8_unload_16 : decode cX8_unload 16 = .ok (.iastore, 1) := by decide +kernel
theorem dX8_unload_17 : decode cX8_unload 17 = .ok (.aload_n 0, 1) := by decide +kernel
theorem dX8_unload_18 : decode cX8_unload 18 = .ok (.aload_n 1, 1) := by decide +kernel
theorem dX8_unload_19 : decode cX8_unload 19 = .ok (.getfield 220, 3) := by decide +kernel
theorem dX8_unload_22 : decode cX8_unload 22 = .ok (.iload_n 2, 1) := by decide +kernel
theorem dX8_unload_23 : decode cX8_unload 23 = .ok (.iaload, 1) := by decide +kernel
theorem dX8_unload_24 : decode cX8_unload 24 = .ok (.invokevirtual 102, 3) := by decide +kernel
theorem dX8_unload_27 : decode cX8_unload 27 = .ok (.astore 4, 2) := by decide +kernel
theorem dX8_unload_29 : decode cX8_unload 29 = .ok (.aload 4, 2) := by decide +kernel
theorem dX8_unload_31 : decode cX8_unload 31 = .ok (.ifnull 24, 3) := by decide +kernel
theorem dX8_unload_34 : decode cX8_unload 34 = .ok (.aload 4, 2) := by decide +kernel
theorem dX8_unload_36 : decode cX8_unload 36 = .ok (.aload_n 0, 1) := by decide +kernel
theorem dX8_unload_37 : decode cX8_unload 37 = .ok (.getfield 79, 3) := by decide +kernel
theorem dX8_unload_40 : decode cX8_unload 40 = .ok (.iload_n 3, 1) := by decide +kernel
theorem dX8_unload_41 : decode cX8_unload 41 = .ok (.iconst 0, 1) := by decide +kernel
theorem dX8_unload_42 : decode cX8_unload 42 = .ok (.invokevirtual 121, 3) := by decide +kernel
theorem dX8_unload_45 : decode cX8_unload 45 = .ok (.aload 4, 2) := by decide +kernel
theorem dX8_unload_47 : decode cX8_unload 47 = .ok (.iconst (-1), 1) := by decide +kernel
theorem dX8_unload_48 : decode cX8_unload 48 = .ok (.aload_n 0, 1) := by decide +kernel
theorem dX8_unload_49 : decode cX8_unload 49 = .ok (.getfield 79, 3) := by decide +kernel
theorem dX8_unload_52 : decode cX8_unload 52 = .ok (.invokevirtual 288, 3) := by decide +kernel
theorem dX8_unload_55 : decode cX8_unload 55 = .ok (.return_, 1) := by decide +kernel
theorem dX8_warmth_0 : decode cX8_warmth 0 = .ok (.iload_n 1, 1) := by decide +kernel
theorem dX8_warmth_1 : decode cX8_warmth 1 = .ok (.invokestatic 84, 3) := by decide +kernel
theorem dX8_warmth_4 : decode cX8_warmth 4 = .ok (.ifCond .eq 18, 3) := by decide +kernel
theorem dX8_warmth_7 : decode cX8_warmth 7 = .ok (.iload_n 2, 1) := by decide +kernel
theorem dX8_warmth_8 : decode cX8_warmth 8 = .ok (.bipush (-100), 2) := by decide +kernel
theorem dX8_warmth_10 : decode cX8_warmth 10 = .ok (.if_icmp .eq 14, 3) := by decide +kernel
theorem dX8_warmth_13 : decode cX8_warmth 13 = .ok (.iload_n 2, 1) := by decide +kernel
theorem dX8_warmth_14 : decode cX8_warmth 14 = .ok (.bipush 50, 2) := by decide +kernel
theorem dX8_warmth_16 : decode cX8_warmth 16 = .ok (.invokestatic 88, 3) := by decide +kernel
theorem dX8_warmth_19 : decode cX8_warmth 19 = .ok (.ifCond .ne 5, 3) := by decide +kernel
theorem dX8_warmth_22 : decode cX8_warmth 22 = .ok (.iconst (-1), 1) := by decide +kernel
theorem dX8_warmth_23 : decode cX8_warmth 23 = .ok (.ireturn, 1) := by decide +kernel
theorem dX8_warmth_24 : decode cX8_warmth 24 = .ok (.aload_n 0, 1) := by decide +kernel
theorem dX8_warmth_25 : decode cX8_warmth 25 = .ok (.getfield 9, 3) := by decide +kernel
theorem dX8_warmth_28 : decode cX8_warmth 28 = .ok (.iload_n 1, 1) := by decide +kernel
theorem dX8_warmth_29 : decode cX8_warmth 29 = .ok (.iload_n 2, 1) := by decide +kernel
theorem dX8_warmth_30 : decode cX8_warmth 30 = .ok (.iastore, 1) := by decide +kernel
theorem dX8_warmth_31 : decode cX8_warmth 31 = .ok (.iconst 1, 1) := by decide +kernel
theorem dX8_warmth_32 : decode cX8_warmth 32 = .ok (.ireturn, 1) := by decide +kernel
theorem dX8_warmthFor_0 : decode cX8_warmthFor 0 = .ok (.iload_n 1, 1) := by decide +kernel
theorem dX8_warmthFor_1 : decode cX8_warmthFor 1 = .ok (.invokestatic 92, 3) := by decide +kernel
theorem dX8_warmthFor_4 : decode cX8_warmthFor 4 = .ok (.ifCond .eq 10, 3) := by decide +kernel
theorem dX8_warmthFor_7 : decode cX8_warmthFor 7 = .ok (.iload_n 2, 1) := by decide +kernel
theorem dX8_warmthFor_8 : decode cX8_warmthFor 8 = .ok (.invokestatic 84, 3) := by decide +kernel
theorem dX8_warmthFor_11 : decode cX8_warmthFor 11 = .ok (.ifCond .ne 6, 3) := by decide +kernel
theorem dX8_warmthFor_14 : decode cX8_warmthFor 14 = .ok (.bipush (-100), 2) := by decide +kernel
theorem dX8_warmthFor_16 : decode cX8_warmthFor 16 = .ok (.ireturn, 1) := by decide +kernel
theorem dX8_warmthFor_17 : decode cX8_warmthFor 17 = .ok (.aload_n 0, 1) := by decide +kernel
theorem dX8_warmthFor_18 : decode cX8_warmthFor 18 = .ok (.getfield 13, 3) := by decide +kernel
theorem dX8_warmthFor_21 : decode cX8_warmthFor 21 = .ok (.iload_n 1, 1) := by decide +kernel
theorem dX8_warmthFor_22 : decode cX8_warmthFor 22 = .ok (.iaload, 1) := by decide +kernel
theorem dX8_warmthFor_23 : decode cX8_warmthFor 23 = .ok (.iconst 1, 1) := by decide +kernel
theorem dX8_warmthFor_24 : decode cX8_warmthFor 24 = .ok (.if_icmp .ne 12, 3) := by decide +kernel
theorem dX8_warmthFor_27 : decode cX8_warmthFor 27 = .ok (.aload_n 0, 1) := by decide +kernel
theorem dX8_warmthFor_28 : decode cX8_warmthFor 28 = .ok (.getfield 16, 3) := by decide +kernel
theorem dX8_warmthFor_31 : decode cX8_warmthFor 31 = .ok (.iload_n 1, 1) := by decide +kernel
theorem dX8_warmthFor_32 : decode cX8_warmthFor 32 = .ok (.iaload, 1) := by decide +kernel
theorem dX8_warmthFor_33 : decode cX8_warmthFor 33 = .ok (.goto 9, 3) := by decide +kernel
theorem dX8_warmthFor_36 : decode cX8_warmthFor 36 = .ok (.aload_n 0, 1) := by decide +kernel
theorem dX8_warmthFor_37 : decode cX8_warmthFor 37 = .ok (.getfield 9, 3) := by decide +kernel
theorem dX8_warmthFor_40 : decode cX8_warmthFor 40 = .ok (.iload_n 2, 1) := by decide +kernel
theorem dX8_warmthFor_41 : decode cX8_warmthFor 41 = .ok (.iaload, 1) := by decide +kernel
theorem dX8_warmthFor_42 : decode cX8_warmthFor 42 = .ok (.ireturn, 1) := by decide +kernel
theorem dX8_warmthSpan_0 : decode cX8_warmthSpan 0 = .ok (.bipush 50, 2) := by decide +kernel
theorem dX8_warmthSpan_2 : decode cX8_warmthSpan 2 = .ok (.istore_n 2, 1) := by decide +kernel
theorem dX8_warmthSpan_3 : decode cX8_warmthSpan 3 = .ok (.bipush (-50), 2) := by decide +kernel
theorem dX8_warmthSpan_5 : decode cX8_warmthSpan 5 = .ok (.istore_n 3, 1) := by decide +kernel
theorem dX8_warmthSpan_6 : decode cX8_warmthSpan 6 = .ok (.iconst 0, 1) := by decide +kernel
theorem dX8_warmthSpan_7 : decode cX8_warmthSpan 7 = .ok (.istore 4, 2) := by decide +kernel
theorem dX8_warmthSpan_9 : decode cX8_warmthSpan 9 = .ok (.iload 4, 2) := by decide +kernel
theorem dX8_warmthSpan_11 : decode cX8_warmthSpan 11 = .ok (.aload_n 0, 1) := by decide +kernel
theorem dX8_warmthSpan_12 : decode cX8_warmthSpan 12 = .ok (.getfield 44, 3) := by decide +kernel
theorem dX8_warmthSpan_15 : decode cX8_warmthSpan 15 = .ok (.getfield 311, 3) := by decide +kernel
theorem dX8_warmthSpan_18 : decode cX8_warmthSpan 18 = .ok (.if_icmp .ge 47, 3) := by decide +kernel
theorem dX8_warmthSpan_21 : decode cX8_warmthSpan 21 = .ok (.aload_n 0, 1) := by decide +kernel
theorem dX8_warmthSpan_22 : decode cX8_warmthSpan 22 = .ok (.iload_n 1, 1) := by decide +kernel
theorem dX8_warmthSpan_23 : decode cX8_warmthSpan 23 = .ok (.aload_n 0, 1) := by decide +kernel
theorem dX8_warmthSpan_24 : decode cX8_warmthSpan 24 = .ok (.getfield 44, 3) := by decide +kernel
theorem dX8_warmthSpan_27 : decode cX8_warmthSpan 27 = .ok (.getfield 312, 3) := by decide +kernel
theorem dX8_warmthSpan_30 : decode cX8_warmthSpan 30 = .ok (.iload 4, 2) := by decide +kernel
theorem dX8_warmthSpan_32 : decode cX8_warmthSpan 32 = .ok (.iaload, 1) := by decide +kernel
theorem dX8_warmthSpan_33 : decode cX8_warmthSpan 33 = .ok (.invokevirtual 315, 3) := by decide +kernel
theorem dX8_warmthSpan_36 : decode cX8_warmthSpan 36 = .ok (.istore 5, 2) := by decide +kernel
theorem dX8_warmthSpan_38 : decode cX8_warmthSpan 38 = .ok (.iload 5, 2) := by decide +kernel
theorem dX8_warmthSpan_40 : decode cX8_warmthSpan 40 = .ok (.bipush (-100), 2) := by decide +kernel
theorem dX8_warmthSpan_42 : decode cX8_warmthSpan 42 = .ok (.if_icmp .eq 17, 3) := by decide +kernel
theorem dX8_warmthSpan_45 : decode cX8_warmthSpan 45 = .ok (.iload_n 2, 1) := by decide +kernel
theorem dX8_warmthSpan_46 : decode cX8_warmthSpan 46 = .ok (.iload 5, 2) := by decide +kernel
theorem dX8_warmthSpan_48 : decode cX8_warmthSpan 48 = .ok (.invokestatic 350, 3) := by decide +kernel
theorem dX8_warmthSpan_51 : decode cX8_warmthSpan 51 = .ok (.istore_n 2, 1) := by decide +kernel
theorem dX8_warmthSpan_52 : decode cX8_warmthSpan 52 = .ok (.iload_n 3, 1) := by decide +kernel
theorem dX8_warmthSpan_53 : decode cX8_warmthSpan 53 = .ok (.iload 5, 2) := by decide +kernel
theorem dX8_warmthSpan_55 : decode cX8_warmthSpan 55 = .ok (.invokestatic 355, 3) := by decide +kernel
theorem dX8_warmthSpan_58 : decode cX8_warmthSpan 58 = .ok (.istore_n 3, 1) := by decide +kernel
theorem dX8_warmthSpan_59 : decode cX8_warmthSpan 59 = .ok (.iinc 4 1, 3) := by decide +kernel
theorem dX8_warmthSpan_62 : decode cX8_warmthSpan 62 = .ok (.goto (-53), 3) := by decide +kernel
theorem dX8_warmthSpan_65 : decode cX8_warmthSpan 65 = .ok (.iconst 0, 1) := by decide +kernel
theorem dX8_warmthSpan_66 : decode cX8_warmthSpan 66 = .ok (.iload_n 3, 1) := by decide +kernel
theorem dX8_warmthSpan_67 : decode cX8_warmthSpan 67 = .ok (.iload_n 2, 1) := by decide +kernel
theorem dX8_warmthSpan_68 : decode cX8_warmthSpan 68 = .ok (.isub, 1) := by decide +kernel
theorem dX8_warmthSpan_69 : decode cX8_warmthSpan 69 = .ok (.invokestatic 355, 3) := by decide +kernel
theorem dX8_warmthSpan_72 : decode cX8_warmthSpan 72 = .ok (.ireturn, 1) := by decide +kernel
theorem dX8_watchAt_0 : decode cX8_watchAt 0 = .ok (.iload_n 1, 1) := by decide +kernel
theorem dX8_watchAt_1 : decode cX8_watchAt 1 = .ok (.invokestatic 92, 3) := by decide +kernel
theorem dX8_watchAt_4 : decode cX8_watchAt 4 = .ok (.ifCond .eq 22, 3) := by decide +kernel
theorem dX8_watchAt_7 : decode cX8_watchAt 7 = .ok (.aload_n 0, 1) := by decide +kernel
theorem dX8_watchAt_8 : decode cX8_watchAt 8 = .ok (.getfield 13, 3) := by decide +kernel
theorem dX8_watchAt_11 : decode cX8_watchAt 11 = .ok (.iload_n 1, 1) := by decide +kernel
theorem dX8_watchAt_12 : decode cX8_watchAt 12 = .ok (.iaload, 1) := by decide +kernel
theorem dX8_watchAt_13 : decode cX8_watchAt 13 = .ok (.ifCond .eq 15, 3) := by decide +kernel
theorem dX8_watchAt_16 : decode cX8_watchAt 16 = .ok (.aload_n 0, 1) := by decide +kernel
theorem dX8_watchAt_17 : decode cX8_watchAt 17 = .ok (.getfield 13, 3) := by decide +kernel
theorem dX8_watchAt_20 : decode cX8_watchAt 20 = .ok (.iload_n 1, 1) := by decide +kernel
theorem dX8_watchAt_21 : decode cX8_watchAt 21 = .ok (.iaload, 1) := by decide +kernel
theorem dX8_watchAt_22 : decode cX8_watchAt 22 = .ok (.iconst 1, 1) := by decide +kernel
theorem dX8_watchAt_23 : decode cX8_watchAt 23 = .ok (.if_icmp .eq 5, 3) := by decide +kernel
theorem dX8_watchAt_26 : decode cX8_watchAt 26 = .ok (.aconst_null, 1) := by decide +kernel
theorem dX8_watchAt_27 : decode cX8_watchAt 27 = .ok (.areturn, 1) := by decide +kernel
theorem dX8_watchAt_28 : decode cX8_watchAt 28 = .ok (.aload_n 0, 1) := by decide +kernel
theorem dX8_watchAt_29 : decode cX8_watchAt 29 = .ok (.getfield 21, 3) := by decide +kernel
theorem dX8_watchAt_32 : decode cX8_watchAt 32 = .ok (.iload_n 1, 1) := by decide +kernel
theorem dX8_watchAt_33 : decode cX8_watchAt 33 = .ok (.aaload, 1) := by decide +kernel
theorem dX8_watchAt_34 : decode cX8_watchAt 34 = .ok (.areturn, 1) := by decide +kernel
theorem dX8_workOutTrial_0 : decode cX8_workOutTrial 0 = .ok (.aload_n 0, 1) := by decide +kernel
theorem dX8_workOutTrial_1 : decode cX8_workOutTrial 1 = .ok (.getfield 44, 3) := by decide +kernel
theorem dX8_workOutTrial_4 : decode cX8_workOutTrial 4 = .ok (.invokevirtual 328, 3) := by decide +kernel
theorem dX8_workOutTrial_7 : decode cX8_workOutTrial 7 = .ok (.istore_n 3, 1) := by decide +kernel
theorem dX8_workOutTrial_8 : decode cX8_workOutTrial 8 = .ok (.aload_n 0, 1) := by decide +kernel
theorem dX8_workOutTrial_9 : decode cX8_workOutTrial 9 = .ok (.getfield 44, 3) := by decide +kernel
theorem dX8_workOutTrial_12 : decode cX8_workOutTrial 12 = .ok (.invokevirtual 331, 3) := by decide +kernel
theorem dX8_workOutTrial_15 : decode cX8_workOutTrial 15 = .ok (.istore 4, 2) := by decide +kernel
theorem dX8_workOutTrial_17 : decode cX8_workOutTrial 17 = .ok (.aload_n 0, 1) := by decide +kernel
theorem dX8_workOutTrial_18 : decode cX8_workOutTrial 18 = .ok (.getfield 31, 3) := by decide +kernel
theorem dX8_workOutTrial_21 : decode cX8_workOutTrial 21 = .ok (.iconst 0, 1) := by decide +kernel
theorem dX8_workOutTrial_22 : decode cX8_workOutTrial 22 = .ok (.aload_n 0, 1) := by decide +kernel
theorem dX8_workOutTrial_23 : decode cX8_workOutTrial 23 = .ok (.getfield 44, 3) := by decide +kernel
theorem dX8_workOutTrial_26 : decode cX8_workOutTrial 26 = .ok (.getfield 311, 3) := by decide +kernel
theorem dX8_workOutTrial_29 : decode cX8_workOutTrial 29 = .ok (.iastore, 1) := by decide +kernel
theorem dX8_workOutTrial_30 : decode cX8_workOutTrial 30 = .ok (.aload_n 0, 1) := by decide +kernel
theorem dX8_workOutTrial_31 : decode cX8_workOutTrial 31 = .ok (.getfield 31, 3) := by decide +kernel
theorem dX8_workOutTrial_34 : decode cX8_workOutTrial 34 = .ok (.iconst 1, 1) := by decide +kernel
theorem dX8_workOutTrial_35 : decode cX8_workOutTrial 35 = .ok (.iload_n 3, 1) := by decide +kernel
theorem dX8_workOutTrial_36 : decode cX8_workOutTrial 36 = .ok (.iastore, 1) := by decide +kernel
theorem dX8_workOutTrial_37 : decode cX8_workOutTrial 37 = .ok (.aload_n 0, 1) := by decide +kernel
theorem dX8_workOutTrial_38 : decode cX8_workOutTrial 38 = .ok (.getfield 31, 3) := by decide +kernel
theorem dX8_workOutTrial_41 : decode cX8_workOutTrial 41 = .ok (.iconst 2, 1) := by decide +kernel
theorem dX8_workOutTrial_42 : decode cX8_workOutTrial 42 = .ok (.iload 4, 2) := by decide +kernel
theorem dX8_workOutTrial_44 : decode cX8_workOutTrial 44 = .ok (.iastore, 1) := by decide +kernel
theorem dX8_workOutTrial_45 : decode cX8_workOutTrial 45 = .ok (.aload_n 0, 1) := by decide +kernel
theorem dX8_workOutTrial_46 : decode cX8_workOutTrial 46 = .ok (.getfield 31, 3) := by decide +kernel
theorem dX8_workOutTrial_49 : decode cX8_workOutTrial 49 = .ok (.iconst 3, 1) := by decide +kernel
theorem dX8_workOutTrial_50 : decode cX8_workOutTrial 50 = .ok (.iload 4, 2) := by decide +kernel
theorem dX8_workOutTrial_52 : decode cX8_workOutTrial 52 = .ok (.iload_n 3, 1) := by decide +kernel
theorem dX8_workOutTrial_53 : decode cX8_workOutTrial 53 = .ok (.isub, 1) := by decide +kernel
theorem dX8_workOutTrial_54 : decode cX8_workOutTrial 54 = .ok (.iastore, 1) := by decide +kernel
theorem dX8_workOutTrial_55 : decode cX8_workOutTrial 55 = .ok (.aload_n 0, 1) := by decide +kernel
theorem dX8_workOutTrial_56 : decode cX8_workOutTrial 56 = .ok (.getfield 31, 3) := by decide +kernel
theorem dX8_workOutTrial_59 : decode cX8_workOutTrial 59 = .ok (.iconst 4, 1) := by decide +kernel
theorem dX8_workOutTrial_60 : decode cX8_workOutTrial 60 = .ok (.iload_n 2, 1) := by decide +kernel
theorem dX8_workOutTrial_61 : decode cX8_workOutTrial 61 = .ok (.aload_n 0, 1) := by decide +kernel
theorem dX8_workOutTrial_62 : decode cX8_workOutTrial 62 = .ok (.getfield 44, 3) := by decide +kernel
theorem dX8_workOutTrial_65 : decode cX8_workOutTrial 65 = .ok (.getfield 311, 3) := by decide +kernel
theorem dX8_workOutTrial_68 : decode cX8_workOutTrial 68 = .ok (.isub, 1) := by decide +kernel
theorem dX8_workOutTrial_69 : decode cX8_workOutTrial 69 = .ok (.iastore, 1) := by decide +kernel
theorem dX8_workOutTrial_70 : decode cX8_workOutTrial 70 = .ok (.aload_n 0, 1) := by decide +kernel
theorem dX8_workOutTrial_71 : decode cX8_workOutTrial 71 = .ok (.getfield 31, 3) := by decide +kernel
theorem dX8_workOutTrial_74 : decode cX8_workOutTrial 74 = .ok (.iconst 5, 1) := by decide +kernel
theorem dX8_workOutTrial_75 : decode cX8_workOutTrial 75 = .ok (.aload_n 0, 1) := by decide +kernel
theorem dX8_workOutTrial_76 : decode cX8_workOutTrial 76 = .ok (.getfield 44, 3) := by decide +kernel
theorem dX8_workOutTrial_79 : decode cX8_workOutTrial 79 = .ok (.invokevirtual 334, 3) := by decide +kernel
theorem dX8_workOutTrial_82 : decode cX8_workOutTrial 82 = .ok (.iastore, 1) := by decide +kernel
theorem dX8_workOutTrial_83 : decode cX8_workOutTrial 83 = .ok (.aload_n 0, 1) := by decide +kernel
theorem dX8_workOutTrial_84 : decode cX8_workOutTrial 84 = .ok (.getfield 31, 3) := by decide +kernel
theorem dX8_workOutTrial_87 : decode cX8_workOutTrial 87 = .ok (.bipush 6, 2) := by decide +kernel
theorem dX8_workOutTrial_89 : decode cX8_workOutTrial 89 = .ok (.aload_n 0, 1) := by decide +kernel
theorem dX8_workOutTrial_90 : decode cX8_workOutTrial 90 = .ok (.getfield 44, 3) := by decide +kernel
theorem dX8_workOutTrial_93 : decode cX8_workOutTrial 93 = .ok (.invokevirtual 337, 3) := by decide +kernel
theorem dX8_workOutTrial_96 : decode cX8_workOutTrial 96 = .ok (.iastore, 1) := by decide +kernel
theorem dX8_workOutTrial_97 : decode cX8_workOutTrial 97 = .ok (.aload_n 0, 1) := by decide +kernel
theorem dX8_workOutTrial_98 : decode cX8_workOutTrial 98 = .ok (.getfield 31, 3) := by decide +kernel
theorem dX8_workOutTrial_101 : decode cX8_workOutTrial 101 = .ok (.bipush 7, 2) := by decide +kernel
theorem dX8_workOutTrial_103 : decode cX8_workOutTrial 103 = .ok (.aload_n 0, 1) := by decide +kernel
theorem dX8_workOutTrial_104 : decode cX8_workOutTrial 104 = .ok (.getfield 44, 3) := by decide +kernel
theorem dX8_workOutTrial_107 : decode cX8_workOutTrial 107 = .ok (.invokevirtual 340, 3) := by decide +kernel
theorem dX8_workOutTrial_110 : decode cX8_workOutTrial 110 = .ok (.iastore, 1) := by decide +kernel
theorem dX8_workOutTrial_111 : decode cX8_workOutTrial 111 = .ok (.aload_n 0, 1) := by decide +kernel
theorem dX8_workOutTrial_112 : decode cX8_workOutTrial 112 = .ok (.getfield 31, 3) := by decide +kernel
theorem dX8_workOutTrial_115 : decode cX8_workOutTrial 115 = .ok (.bipush 8, 2) := by decide +kernel
theorem dX8_workOutTrial_117 : decode cX8_workOutTrial 117 = .ok (.aload_n 0, 1) := by decide +kernel
theorem dX8_workOutTrial_118 : decode cX8_workOutTrial 118 = .ok (.iload_n 1, 1) := by decide +kernel
theorem dX8_workOutTrial_119 : decode cX8_workOutTrial 119 = .ok (.invokevirtual 343, 3) := by decide +kernel
theorem dX8_workOutTrial_122 : decode cX8_workOutTrial 122 = .ok (.iastore, 1) := by decide +kernel
theorem dX8_workOutTrial_123 : decode cX8_workOutTrial 123 = .ok (.aload_n 0, 1) := by decide +kernel
theorem dX8_workOutTrial_124 : decode cX8_workOutTrial 124 = .ok (.getfield 72, 3) := by decide +kernel
theorem dX8_workOutTrial_127 : decode cX8_workOutTrial 127 = .ok (.aload_n 0, 1) := by decide +kernel
theorem dX8_workOutTrial_128 : decode cX8_workOutTrial 128 = .ok (.getfield 31, 3) := by decide +kernel
theorem dX8_workOutTrial_131 : decode cX8_workOutTrial 131 = .ok (.invokevirtual 346, 3) := by decide +kernel
theorem dX8_workOutTrial_134 : decode cX8_workOutTrial 134 = .ok (.ireturn, 1) := by decide +kernel
