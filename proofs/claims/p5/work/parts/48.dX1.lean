theorem dX1_add_0 : decode cX1_add 0 = .ok (.aload_n 0, 1) := by decide +kernel
theorem dX1_add_1 : decode cX1_add 1 = .ok (.dup, 1) := by decide +kernel
theorem dX1_add_2 : decode cX1_add 2 = .ok (.getfield 19, 3) := by decide +kernel
theorem dX1_add_5 : decode cX1_add 5 = .ok (.lconst 1, 1) := by decide +kernel
theorem dX1_add_6 : decode cX1_add 6 = .ok (.ladd, 1) := by decide +kernel
theorem dX1_add_7 : decode cX1_add 7 = .ok (.putfield 19, 3) := by decide +kernel
theorem dX1_add_10 : decode cX1_add 10 = .ok (.aload_n 0, 1) := by decide +kernel
theorem dX1_add_11 : decode cX1_add 11 = .ok (.dup, 1) := by decide +kernel
theorem dX1_add_12 : decode cX1_add 12 = .ok (.getfield 22, 3) := by decide +kernel
theorem dX1_add_15 : decode cX1_add 15 = .ok (.lload_n 1, 1) := by decide +kernel
theorem dX1_add_16 : decode cX1_add 16 = .ok (.ladd, 1) := by decide +kernel
theorem dX1_add_17 : decode cX1_add 17 = .ok (.putfield 22, 3) := by decide +kernel
theorem dX1_add_20 : decode cX1_add 20 = .ok (.aload_n 0, 1) := by decide +kernel
theorem dX1_add_21 : decode cX1_add 21 = .ok (.dup, 1) := by decide +kernel
theorem dX1_add_22 : decode cX1_add 22 = .ok (.getfield 25, 3) := by decide +kernel
theorem dX1_add_25 : decode cX1_add 25 = .ok (.lload_n 3, 1) := by decide +kernel
theorem dX1_add_26 : decode cX1_add 26 = .ok (.ladd, 1) := by decide +kernel
theorem dX1_add_27 : decode cX1_add 27 = .ok (.putfield 25, 3) := by decide +kernel
theorem dX1_add_30 : decode cX1_add 30 = .ok (.aload_n 0, 1) := by decide +kernel
theorem dX1_add_31 : decode cX1_add 31 = .ok (.dup, 1) := by decide +kernel
theorem dX1_add_32 : decode cX1_add 32 = .ok (.getfield 28, 3) := by decide +kernel
theorem dX1_add_35 : decode cX1_add 35 = .ok (.lload 5, 2) := by decide +kernel
theorem dX1_add_37 : decode cX1_add 37 = .ok (.ladd, 1) := by decide +kernel
theorem dX1_add_38 : decode cX1_add 38 = .ok (.putfield 28, 3) := by decide +kernel
theorem dX1_add_41 : decode cX1_add 41 = .ok (.aload_n 0, 1) := by decide +kernel
theorem dX1_add_42 : decode cX1_add 42 = .ok (.dup, 1) := by decide +kernel
theorem dX1_add_43 : decode cX1_add 43 = .ok (.getfield 31, 3) := by decide +kernel
theorem dX1_add_46 : decode cX1_add 46 = .ok (.lload_n 3, 1) := by decide +kernel
theorem dX1_add_47 : decode cX1_add 47 = .ok (.lload_n 3, 1) := by decide +kernel
theorem dX1_add_48 : decode cX1_add 48 = .ok (.lmul, 1) := by decide +kernel
theorem dX1_add_49 : decode cX1_add 49 = .ok (.ladd, 1) := by decide +kernel
theorem dX1_add_50 : decode cX1_add 50 = .ok (.putfield 31, 3) := by decide +kernel
theorem dX1_add_53 : decode cX1_add 53 = .ok (.aload_n 0, 1) := by decide +kernel
theorem dX1_add_54 : decode cX1_add 54 = .ok (.dup, 1) := by decide +kernel
theorem dX1_add_55 : decode cX1_add 55 = .ok (.getfield 34, 3) := by decide +kernel
theorem dX1_add_58 : decode cX1_add 58 = .ok (.lload 5, 2) := by decide +kernel
theorem dX1_add_60 : decode cX1_add 60 = .ok (.lload 5, 2) := by decide +kernel
theorem dX1_add_62 : decode cX1_add 62 = .ok (.lmul, 1) := by decide +kernel
theorem dX1_add_63 : decode cX1_add 63 = .ok (.ladd, 1) := by decide +kernel
theorem dX1_add_64 : decode cX1_add 64 = .ok (.putfield 34, 3) := by decide +kernel
theorem dX1_add_67 : decode cX1_add 67 = .ok (.aload_n 0, 1) := by decide +kernel
theorem dX1_add_68 : decode cX1_add 68 = .ok (.dup, 1) := by decide +kernel
theorem dX1_add_69 : decode cX1_add 69 = .ok (.getfield 37, 3) := by decide +kernel
theorem dX1_add_72 : decode cX1_add 72 = .ok (.lload_n 3, 1) := by decide +kernel
theorem dX1_add_73 : decode cX1_add 73 = .ok (.lload 5, 2) := by decide +kernel
theorem dX1_add_75 : decode cX1_add 75 = .ok (.lmul, 1) := by decide +kernel
theorem dX1_add_76 : decode cX1_add 76 = .ok (.ladd, 1) := by decide +kernel
theorem dX1_add_77 : decode cX1_add 77 = .ok (.putfield 37, 3) := by decide +kernel
theorem dX1_add_80 : decode cX1_add 80 = .ok (.aload_n 0, 1) := by decide +kernel
theorem dX1_add_81 : decode cX1_add 81 = .ok (.dup, 1) := by decide +kernel
theorem dX1_add_82 : decode cX1_add 82 = .ok (.getfield 40, 3) := by decide +kernel
theorem dX1_add_85 : decode cX1_add 85 = .ok (.lload_n 3, 1) := by decide +kernel
theorem dX1_add_86 : decode cX1_add 86 = .ok (.lload_n 1, 1) := by decide +kernel
theorem dX1_add_87 : decode cX1_add 87 = .ok (.lmul, 1) := by decide +kernel
theorem dX1_add_88 : decode cX1_add 88 = .ok (.ladd, 1) := by decide +kernel
theorem dX1_add_89 : decode cX1_add 89 = .ok (.putfield 40, 3) := by decide +kernel
theorem dX1_add_92 : decode cX1_add 92 = .ok (.aload_n 0, 1) := by decide +kernel
theorem dX1_add_93 : decode cX1_add 93 = .ok (.dup, 1) := by decide +kernel
theorem dX1_add_94 : decode cX1_add 94 = .ok (.getfield 43, 3) := by decide +kernel
theorem dX1_add_97 : decode cX1_add 97 = .ok (.lload 5, 2) := by decide +kernel
theorem dX1_add_99 : decode cX1_add 99 = .ok (.lload_n 1, 1) := by decide +kernel
theorem dX1_add_100 : decode cX1_add 100 = .ok (.lmul, 1) := by decide +kernel
theorem dX1_add_101 : decode cX1_add 101 = .ok (.ladd, 1) := by decide +kernel
theorem dX1_add_102 : decode cX1_add 102 = .ok (.putfield 43, 3) := by decide +kernel
theorem dX1_add_105 : decode cX1_add 105 = .ok (.return_, 1) := by decide +kernel
theorem dX1_addProduct_0 : decode cX1_addProduct 0 = .ok (.aload_n 0, 1) := by decide +kernel
theorem dX1_addProduct_1 : decode cX1_addProduct 1 = .ok (.getfield 19, 3) := by decide +kernel
theorem dX1_addProduct_4 : decode cX1_addProduct 4 = .ok (.aload_n 0, 1) := by decide +kernel
theorem dX1_addProduct_5 : decode cX1_addProduct 5 = .ok (.getfield 9, 3) := by decide +kernel
theorem dX1_addProduct_8 : decode cX1_addProduct 8 = .ok (.lmul, 1) := by decide +kernel
theorem dX1_addProduct_9 : decode cX1_addProduct 9 = .ok (.lstore 5, 2) := by decide +kernel
theorem dX1_addProduct_11 : decode cX1_addProduct 11 = .ok (.lload 5, 2) := by decide +kernel
theorem dX1_addProduct_13 : decode cX1_addProduct 13 = .ok (.lconst 0, 1) := by decide +kernel
theorem dX1_addProduct_14 : decode cX1_addProduct 14 = .ok (.lcmp, 1) := by decide +kernel
theorem dX1_addProduct_15 : decode cX1_addProduct 15 = .ok (.ifCond .gt 4, 3) := by decide +kernel
theorem dX1_addProduct_18 : decode cX1_addProduct 18 = .ok (.return_, 1) := by decide +kernel
theorem dX1_addProduct_19 : decode cX1_addProduct 19 = .ok (.lload_n 3, 1) := by decide +kernel
theorem dX1_addProduct_20 : decode cX1_addProduct 20 = .ok (.lconst 0, 1) := by decide +kernel
theorem dX1_addProduct_21 : decode cX1_addProduct 21 = .ok (.lcmp, 1) := by decide +kernel
theorem dX1_addProduct_22 : decode cX1_addProduct 22 = .ok (.ifCond .ge 8, 3) := by decide +kernel
theorem dX1_addProduct_25 : decode cX1_addProduct 25 = .ok (.lload_n 1, 1) := by decide +kernel
theorem dX1_addProduct_26 : decode cX1_addProduct 26 = .ok (.lneg, 1) := by decide +kernel
theorem dX1_addProduct_27 : decode cX1_addProduct 27 = .ok (.goto 4, 3) := by decide +kernel
theorem dX1_addProduct_30 : decode cX1_addProduct 30 = .ok (.lload_n 1, 1) := by decide +kernel
theorem dX1_addProduct_31 : decode cX1_addProduct 31 = .ok (.lstore 7, 2) := by decide +kernel
theorem dX1_addProduct_33 : decode cX1_addProduct 33 = .ok (.lload_n 3, 1) := by decide +kernel
theorem dX1_addProduct_34 : decode cX1_addProduct 34 = .ok (.invokestatic 68, 3) := by decide +kernel
theorem dX1_addProduct_37 : decode cX1_addProduct 37 = .ok (.lstore 9, 2) := by decide +kernel
theorem dX1_addProduct_39 : decode cX1_addProduct 39 = .ok (.lload 7, 2) := by decide +kernel
theorem dX1_addProduct_41 : decode cX1_addProduct 41 = .ok (.lload 5, 2) := by decide +kernel
theorem dX1_addProduct_43 : decode cX1_addProduct 43 = .ok (.invokestatic 74, 3) := by decide +kernel
theorem dX1_addProduct_46 : decode cX1_addProduct 46 = .ok (.lstore 11, 2) := by decide +kernel
theorem dX1_addProduct_48 : decode cX1_addProduct 48 = .ok (.aload_n 0, 1) := by decide +kernel
theorem dX1_addProduct_49 : decode cX1_addProduct 49 = .ok (.dup, 1) := by decide +kernel
theorem dX1_addProduct_50 : decode cX1_addProduct 50 = .ok (.getfield 56, 3) := by decide +kernel
theorem dX1_addProduct_53 : decode cX1_addProduct 53 = .ok (.lload 7, 2) := by decide +kernel
theorem dX1_addProduct_55 : decode cX1_addProduct 55 = .ok (.lload 5, 2) := by decide +kernel
theorem dX1_addProduct_57 : decode cX1_addProduct 57 = .ok (.invokestatic 78, 3) := by decide +kernel
theorem dX1_addProduct_60 : decode cX1_addProduct 60 = .ok (.lload 9, 2) := by decide +kernel
theorem dX1_addProduct_62 : decode cX1_addProduct 62 = .ok (.lmul, 1) := by decide +kernel
theorem dX1_addProduct_63 : decode cX1_addProduct 63 = .ok (.ladd, 1) := by decide +kernel
theorem dX1_addProduct_64 : decode cX1_addProduct 64 = .ok (.putfield 56, 3) := by decide +kernel
theorem dX1_addProduct_67 : decode cX1_addProduct 67 = .ok (.lconst 0, 1) := by decide +kernel
theorem dX1_addProduct_68 : decode cX1_addProduct 68 = .ok (.lstore 13, 2) := by decide +kernel
theorem dX1_addProduct_70 : decode cX1_addProduct 70 = .ok (.lconst 0, 1) := by decide +kernel
theorem dX1_addProduct_71 : decode cX1_addProduct 71 = .ok (.lstore 15, 2) := by decide +kernel
theorem dX1_addProduct_73 : decode cX1_addProduct 73 = .ok (.bipush 30, 2) := by decide +kernel
theorem dX1_addProduct_75 : decode cX1_addProduct 75 = .ok (.istore 17, 2) := by decide +kernel
theorem dX1_addProduct_77 : decode cX1_addProduct 77 = .ok (.iload 17, 2) := by decide +kernel
theorem dX1_addProduct_79 : decode cX1_addProduct 79 = .ok (.ifCond .lt 49, 3) := by decide +kernel
theorem dX1_addProduct_82 : decode cX1_addProduct 82 = .ok (.ldc2_w 81, 3) := by decide +kernel
theorem dX1_addProduct_85 : decode cX1_addProduct 85 = .ok (.lload 15, 2) := by decide +kernel
theorem dX1_addProduct_87 : decode cX1_addProduct 87 = .ok (.lmul, 1) := by decide +kernel
theorem dX1_addProduct_88 : decode cX1_addProduct 88 = .ok (.lload 9, 2) := by decide +kernel
theorem dX1_addProduct_90 : decode cX1_addProduct 90 = .ok (.iload 17, 2) := by decide +kernel
theorem dX1_addProduct_92 : decode cX1_addProduct 92 = .ok (.lshr, 1) := by decide +kernel
theorem dX1_addProduct_93 : decode cX1_addProduct 93 = .ok (.lconst 1, 1) := by decide +kernel
theorem dX1_addProduct_94 : decode cX1_addProduct 94 = .ok (.land, 1) := by decide +kernel
theorem dX1_addProduct_95 : decode cX1_addProduct 95 = .ok (.lload 11, 2) := by decide +kernel
theorem dX1_addProduct_97 : decode cX1_addProduct 97 = .ok (.lmul, 1) := by decide +kernel
theorem dX1_addProduct_98 : decode cX1_addProduct 98 = .ok (.ladd, 1) := by decide +kernel
theorem dX1_addProduct_99 : decode cX1_addProduct 99 = .ok (.lstore 15, 2) := by decide +kernel
theorem dX1_addProduct_101 : decode cX1_addProduct 101 = .ok (.ldc2_w 81, 3) := by decide +kernel
theorem dX1_addProduct_104 : decode cX1_addProduct 104 = .ok (.lload 13, 2) := by decide +kernel
theorem dX1_addProduct_106 : decode cX1_addProduct 106 = .ok (.lmul, 1) := by decide +kernel
theorem dX1_addProduct_107 : decode cX1_addProduct 107 = .ok (.lload 15, 2) := by decide +kernel
theorem dX1_addProduct_109 : decode cX1_addProduct 109 = .ok (.lload 5, 2) := by decide +kernel
theorem dX1_addProduct_111 : decode cX1_addProduct 111 = .ok (.ldiv, 1) := by decide +kernel
theorem dX1_addProduct_112 : decode cX1_addProduct 112 = .ok (.ladd, 1) := by decide +kernel
theorem dX1_addProduct_113 : decode cX1_addProduct 113 = .ok (.lstore 13, 2) := by decide +kernel
theorem dX1_addProduct_115 : decode cX1_addProduct 115 = .ok (.lload 15, 2) := by decide +kernel
theorem dX1_addProduct_117 : decode cX1_addProduct 117 = .ok (.lload 5, 2) := by decide +kernel
theorem dX1_addProduct_119 : decode cX1_addProduct 119 = .ok (.lrem, 1) := by decide +kernel
theorem dX1_addProduct_120 : decode cX1_addProduct 120 = .ok (.lstore 15, 2) := by decide +kernel
theorem dX1_addProduct_122 : decode cX1_addProduct 122 = .ok (.iinc 17 (-1), 3) := by decide +kernel
theorem dX1_addProduct_125 : decode cX1_addProduct 125 = .ok (.goto (-48), 3) := by decide +kernel
theorem dX1_addProduct_128 : decode cX1_addProduct 128 = .ok (.aload_n 0, 1) := by decide +kernel
theorem dX1_addProduct_129 : decode cX1_addProduct 129 = .ok (.dup, 1) := by decide +kernel
theorem dX1_addProduct_130 : decode cX1_addProduct 130 = .ok (.getfield 59, 3) := by decide +kernel
theorem dX1_addProduct_133 : decode cX1_addProduct 133 = .ok (.lload 15, 2) := by decide +kernel
theorem dX1_addProduct_135 : decode cX1_addProduct 135 = .ok (.ladd, 1) := by decide +kernel
theorem dX1_addProduct_136 : decode cX1_addProduct 136 = .ok (.putfield 59, 3) := by decide +kernel
theorem dX1_addProduct_139 : decode cX1_addProduct 139 = .ok (.aload_n 0, 1) := by decide +kernel
theorem dX1_addProduct_140 : decode cX1_addProduct 140 = .ok (.dup, 1) := by decide +kernel
theorem dX1_addProduct_141 : decode cX1_addProduct 141 = .ok (.getfield 56, 3) := by decide +kernel
theorem dX1_addProduct_144 : decode cX1_addProduct 144 = .ok (.lload 13, 2) := by decide +kernel
theorem dX1_addProduct_146 : decode cX1_addProduct 146 = .ok (.aload_n 0, 1) := by decide +kernel
theorem dX1_addProduct_147 : decode cX1_addProduct 147 = .ok (.getfield 59, 3) := by decide +kernel
theorem dX1_addProduct_150 : decode cX1_addProduct 150 = .ok (.lload 5, 2) := by decide +kernel
theorem dX1_addProduct_152 : decode cX1_addProduct 152 = .ok (.ldiv, 1) := by decide +kernel
theorem dX1_addProduct_153 : decode cX1_addProduct 153 = .ok (.ladd, 1) := by decide +kernel
theorem dX1_addProduct_154 : decode cX1_addProduct 154 = .ok (.ladd, 1) := by decide +kernel
theorem dX1_addProduct_155 : decode cX1_addProduct 155 = .ok (.putfield 56, 3) := by decide +kernel
theorem dX1_addProduct_158 : decode cX1_addProduct 158 = .ok (.aload_n 0, 1) := by decide +kernel
theorem dX1_addProduct_159 : decode cX1_addProduct 159 = .ok (.aload_n 0, 1) := by decide +kernel
theorem dX1_addProduct_160 : decode cX1_addProduct 160 = .ok (.getfield 59, 3) := by decide +kernel
theorem dX1_addProduct_163 : decode cX1_addProduct 163 = .ok (.lload 5, 2) := by decide +kernel
theorem dX1_addProduct_165 : decode cX1_addProduct 165 = .ok (.lrem, 1) := by decide +kernel
theorem dX1_addProduct_166 : decode cX1_addProduct 166 = .ok (.putfield 59, 3) := by decide +kernel
theorem dX1_addProduct_169 : decode cX1_addProduct 169 = .ok (.return_, 1) := by decide +kernel
theorem dX1_clear_0 : decode cX1_clear 0 = .ok (.aload_n 0, 1) := by decide +kernel
theorem dX1_clear_1 : decode cX1_clear 1 = .ok (.lconst 0, 1) := by decide +kernel
theorem dX1_clear_2 : decode cX1_clear 2 = .ok (.putfield 19, 3) := by decide +kernel
theorem dX1_clear_5 : decode cX1_clear 5 = .ok (.aload_n 0, 1) := by decide +kernel
theorem dX1_clear_6 : decode cX1_clear 6 = .ok (.lconst 0, 1) := by decide +kernel
theorem dX1_clear_7 : decode cX1_clear 7 = .ok (.putfield 22, 3) := by decide +kernel
theorem dX1_clear_10 : decode cX1_clear 10 = .ok (.aload_n 0, 1) := by decide +kernel
theorem dX1_clear_11 : decode cX1_clear 11 = .ok (.lconst 0, 1) := by decide +kernel
theorem dX1_clear_12 : decode cX1_clear 12 = .ok (.putfield 25, 3) := by decide +kernel
theorem dX1_clear_15 : decode cX1_clear 15 = .ok (.aload_n 0, 1) := by decide +kernel
theorem dX1_clear_16 : decode cX1_clear 16 = .ok (.lconst 0, 1) := by decide +kernel
theorem dX1_clear_17 : decode cX1_clear 17 = .ok (.putfield 28, 3) := by decide +kernel
theorem dX1_clear_20 : decode cX1_clear 20 = .ok (.aload_n 0, 1) := by decide +kernel
theorem dX1_clear_21 : decode cX1_clear 21 = .ok (.lconst 0, 1) := by decide +kernel
theorem dX1_clear_22 : decode cX1_clear 22 = .ok (.putfield 31, 3) := by decide +kernel
theorem dX1_clear_25 : decode cX1_clear 25 = .ok (.aload_n 0, 1) := by decide +kernel
theorem dX1_clear_26 : decode cX1_clear 26 = .ok (.lconst 0, 1) := by decide +kernel
theorem dX1_clear_27 : decode cX1_clear 27 = .ok (.putfield 34, 3) := by decide +kernel
theorem dX1_clear_30 : decode cX1_clear 30 = .ok (.aload_n 0, 1) := by decide +kernel
theorem dX1_clear_31 : decode cX1_clear 31 = .ok (.lconst 0, 1) := by decide +kernel
theorem dX1_clear_32 : decode cX1_clear 32 = .ok (.putfield 37, 3) := by decide +kernel
theorem dX1_clear_35 : decode cX1_clear 35 = .ok (.aload_n 0, 1) := by decide +kernel
theorem dX1_clear_36 : decode cX1_clear 36 = .ok (.lconst 0, 1) := by decide +kernel
theorem dX1_clear_37 : decode cX1_clear 37 = .ok (.putfield 40, 3) := by decide +kernel
theorem dX1_clear_40 : decode cX1_clear 40 = .ok (.aload_n 0, 1) := by decide +kernel
theorem dX1_clear_41 : decode cX1_clear 41 = .ok (.lconst 0, 1) := by decide +kernel
theorem dX1_clear_42 : decode cX1_clear 42 = .ok (.putfield 43, 3) := by decide +kernel
theorem dX1_clear_45 : decode cX1_clear 45 = .ok (.return_, 1) := by decide +kernel
theorem dX1_form_0 : decode cX1_form 0 = .ok (.aload_n 0, 1) := by decide +kernel
theorem dX1_form_1 : decode cX1_form 1 = .ok (.getfield 15, 3) := by decide +kernel
theorem dX1_form_4 : decode cX1_form 4 = .ok (.ireturn, 1) := by decide +kernel
theorem dX1_setLaw_0 : decode cX1_setLaw 0 = .ok (.aload_n 0, 1) := by decide +kernel
theorem dX1_setLaw_1 : decode cX1_setLaw 1 = .ok (.iload_n 1, 1) := by decide +kernel
theorem dX1_setLaw_2 : decode cX1_setLaw 2 = .ok (.putfield 15, 3) := by decide +kernel
theorem dX1_setLaw_5 : decode cX1_setLaw 5 = .ok (.aload_n 0, 1) := by decide +kernel
theorem dX1_setLaw_6 : decode cX1_setLaw 6 = .ok (.lload_n 2, 1) := by decide +kernel
theorem dX1_setLaw_7 : decode cX1_setLaw 7 = .ok (.putfield 9, 3) := by decide +kernel
theorem dX1_setLaw_10 : decode cX1_setLaw 10 = .ok (.aload_n 0, 1) := by decide +kernel
theorem dX1_setLaw_11 : decode cX1_setLaw 11 = .ok (.lload 4, 2) := by decide +kernel
theorem dX1_setLaw_13 : decode cX1_setLaw 13 = .ok (.putfield 50, 3) := by decide +kernel
theorem dX1_setLaw_16 : decode cX1_setLaw 16 = .ok (.aload_n 0, 1) := by decide +kernel
theorem dX1_setLaw_17 : decode cX1_setLaw 17 = .ok (.lload 6, 2) := by decide +kernel
theorem dX1_setLaw_19 : decode cX1_setLaw 19 = .ok (.putfield 53, 3) := by decide +kernel
theorem dX1_setLaw_22 : decode cX1_setLaw 22 = .ok (.return_, 1) := by decide +kernel
theorem dX1_size_0 : decode cX1_size 0 = .ok (.aload_n 0, 1) := by decide +kernel
theorem dX1_size_1 : decode cX1_size 1 = .ok (.getfield 19, 3) := by decide +kernel
theorem dX1_size_4 : decode cX1_size 4 = .ok (.l2i, 1) := by decide +kernel
theorem dX1_size_5 : decode cX1_size 5 = .ok (.ireturn, 1) := by decide +kernel
theorem dX1_solve_0 : decode cX1_solve 0 = .ok (.aload_n 0, 1) := by decide +kernel
theorem dX1_solve_1 : decode cX1_solve 1 = .ok (.getfield 19, 3) := by decide +kernel
theorem dX1_solve_4 : decode cX1_solve 4 = .ok (.aload_n 0, 1) := by decide +kernel
theorem dX1_solve_5 : decode cX1_solve 5 = .ok (.getfield 31, 3) := by decide +kernel
theorem dX1_solve_8 : decode cX1_solve 8 = .ok (.lmul, 1) := by decide +kernel
theorem dX1_solve_9 : decode cX1_solve 9 = .ok (.aload_n 0, 1) := by decide +kernel
theorem dX1_solve_10 : decode cX1_solve 10 = .ok (.getfield 25, 3) := by decide +kernel
theorem dX1_solve_13 : decode cX1_solve 13 = .ok (.aload_n 0, 1) := by decide +kernel
theorem dX1_solve_14 : decode cX1_solve 14 = .ok (.getfield 25, 3) := by decide +kernel
theorem dX1_solve_17 : decode cX1_solve 17 = .ok (.lmul, 1) := by decide +kernel
theorem dX1_solve_18 : decode cX1_solve 18 = .ok (.lsub, 1) := by decide +kernel
theorem dX1_solve_19 : decode cX1_solve 19 = .ok (.lstore_n 1, 1) := by decide +kernel
theorem dX1_solve_20 : decode cX1_solve 20 = .ok (.aload_n 0, 1) := by decide +kernel
theorem dX1_solve_21 : decode cX1_solve 21 = .ok (.getfield 19, 3) := by decide +kernel
theorem dX1_solve_24 : decode cX1_solve 24 = .ok (.aload_n 0, 1) := by decide +kernel
theorem dX1_solve_25 : decode cX1_solve 25 = .ok (.getfield 34, 3) := by decide +kernel
theorem dX1_solve_28 : decode cX1_solve 28 = .ok (.lmul, 1) := by decide +kernel
theorem dX1_solve_29 : decode cX1_solve 29 = .ok (.aload_n 0, 1) := by decide +kernel
theorem dX1_solve_30 : decode cX1_solve 30 = .ok (.getfield 28, 3) := by decide +kernel
theorem dX1_solve_33 : decode cX1_solve 33 = .ok (.aload_n 0, 1) := by decide +kernel
theorem dX1_solve_34 : decode cX1_solve 34 = .ok (.getfield 28, 3) := by decide +kernel
theorem dX1_solve_37 : decode cX1_solve 37 = .ok (.lmul, 1) := by decide +kernel
theorem dX1_solve_38 : decode cX1_solve 38 = .ok (.lsub, 1) := by decide +kernel
theorem dX1_solve_39 : decode cX1_solve 39 = .ok (.lstore_n 3, 1) := by decide +kernel
theorem dX1_solve_40 : decode cX1_solve 40 = .ok (.aload_n 0, 1) := by decide +kernel
theorem dX1_solve_41 : decode cX1_solve 41 = .ok (.getfield 19, 3) := by decide +kernel
theorem dX1_solve_44 : decode cX1_solve 44 = .ok (.aload_n 0, 1) := by decide +kernel
theorem dX1_solve_45 : decode cX1_solve 45 = .ok (.getfield 37, 3) := by decide +kernel
theorem dX1_solve_48 : decode cX1_solve 48 = .ok (.lmul, 1) := by decide +kernel
theorem dX1_solve_49 : decode cX1_solve 49 = .ok (.aload_n 0, 1) := by decide +kernel
theorem dX1_solve_50 : decode cX1_solve 50 = .ok (.getfield 25, 3) := by decide +kernel
theorem dX1_solve_53 : decode cX1_solve 53 = .ok (.aload_n 0, 1) := by decide +kernel
theorem dX1_solve_54 : decode cX1_solve 54 = .ok (.getfield 28, 3) := by decide +kernel
theorem dX1_solve_57 : decode cX1_solve 57 = .ok (.lmul, 1) := by decide +kernel
theorem dX1_solve_58 : decode cX1_solve 58 = .ok (.lsub, 1) := by decide +kernel
theorem dX1_solve_59 : decode cX1_solve 59 = .ok (.lstore 5, 2) := by decide +kernel
theorem dX1_solve_61 : decode cX1_solve 61 = .ok (.aload_n 0, 1) := by decide +kernel
theorem dX1_solve_62 : decode cX1_solve 62 = .ok (.getfield 19, 3) := by decide +kernel
theorem dX1_solve_65 : decode cX1_solve 65 = .ok (.aload_n 0, 1) := by decide +kernel
theorem dX1_solve_66 : decode cX1_solve 66 = .ok (.getfield 40, 3) := by decide +kernel
theorem dX1_solve_69 : decode cX1_solve 69 = .ok (.lmul, 1) := by decide +kernel
theorem dX1_solve_70 : decode cX1_solve 70 = .ok (.aload_n 0, 1) := by decide +kernel
theorem dX1_solve_71 : decode cX1_solve 71 = .ok (.getfield 25, 3) := by decide +kernel
theorem dX1_solve_74 : decode cX1_solve 74 = .ok (.aload_n 0, 1) := by decide +kernel
theorem dX1_solve_75 : decode cX1_solve 75 = .ok (.getfield 22, 3) := by decide +kernel
theorem dX1_solve_78 : decode cX1_solve 78 = .ok (.lmul, 1) := by decide +kernel
theorem dX1_solve_79 : decode cX1_solve 79 = .ok (.lsub, 1) := by decide +kernel
theorem dX1_solve_80 : decode cX1_solve 80 = .ok (.lstore 7, 2) := by decide +kernel
theorem dX1_solve_82 : decode cX1_solve 82 = .ok (.aload_n 0, 1) := by decide +kernel
theorem dX1_solve_83 : decode cX1_solve 83 = .ok (.getfield 19, 3) := by decide +kernel
theorem dX1_solve_86 : decode cX1_solve 86 = .ok (.aload_n 0, 1) := by decide +kernel
theorem dX1_solve_87 : decode cX1_solve 87 = .ok (.getfield 43, 3) := by decide +kernel
theorem dX1_solve_90 : decode cX1_solve 90 = .ok (.lmul, 1) := by decide +kernel
theorem dX1_solve_91 : decode cX1_solve 91 = .ok (.aload_n 0, 1) := by decide +kernel
theorem dX1_solve_92 : decode cX1_solve 92 = .ok (.getfield 28, 3) := by decide +kernel
theorem dX1_solve_95 : decode cX1_solve 95 = .ok (.aload_n 0, 1) := by decide +kernel
theorem dX1_solve_96 : decode cX1_solve 96 = .ok (.getfield 22, 3) := by decide +kernel
theorem dX1_solve_99 : decode cX1_solve 99 = .ok (.lmul, 1) := by decide +kernel
theorem dX1_solve_100 : decode cX1_solve 100 = .ok (.lsub, 1) := by decide +kernel
theorem dX1_solve_101 : decode cX1_solve 101 = .ok (.lstore 9, 2) := by decide +kernel
theorem dX1_solve_103 : decode cX1_solve 103 = .ok (.lload_n 1, 1) := by decide +kernel
theorem dX1_solve_104 : decode cX1_solve 104 = .ok (.lload_n 3, 1) := by decide +kernel
theorem dX1_solve_105 : decode cX1_solve 105 = .ok (.lmul, 1) := by decide +kernel
theorem dX1_solve_106 : decode cX1_solve 106 = .ok (.lload 5, 2) := by decide +kernel
theorem dX1_solve_108 : decode cX1_solve 108 = .ok (.lload 5, 2) := by decide +kernel
theorem dX1_solve_110 : decode cX1_solve 110 = .ok (.lmul, 1) := by decide +kernel
theorem dX1_solve_111 : decode cX1_solve 111 = .ok (.lsub, 1) := by decide +kernel
theorem dX1_solve_112 : decode cX1_solve 112 = .ok (.lstore 11, 2) := by decide +kernel
theorem dX1_solve_114 : decode cX1_solve 114 = .ok (.lload 11, 2) := by decide +kernel
theorem dX1_solve_116 : decode cX1_solve 116 = .ok (.lconst 0, 1) := by decide +kernel
theorem dX1_solve_117 : decode cX1_solve 117 = .ok (.lcmp, 1) := by decide +kernel
theorem dX1_solve_118 : decode cX1_solve 118 = .ok (.ifCond .le 33, 3) := by decide +kernel
theorem dX1_solve_121 : decode cX1_solve 121 = .ok (.aload_n 0, 1) := by decide +kernel
theorem dX1_solve_122 : decode cX1_solve 122 = .ok (.iconst 3, 1) := by decide +kernel
theorem dX1_solve_123 : decode cX1_solve 123 = .ok (.lload 11, 2) := by decide +kernel
theorem dX1_solve_125 : decode cX1_solve 125 = .ok (.lload 7, 2) := by decide +kernel
theorem dX1_solve_127 : decode cX1_solve 127 = .ok (.lload_n 3, 1) := by decide +kernel
theorem dX1_solve_128 : decode cX1_solve 128 = .ok (.lmul, 1) := by decide +kernel
theorem dX1_solve_129 : decode cX1_solve 129 = .ok (.lload 9, 2) := by decide +kernel
theorem dX1_solve_131 : decode cX1_solve 131 = .ok (.lload 5, 2) := by decide +kernel
theorem dX1_solve_133 : decode cX1_solve 133 = .ok (.lmul, 1) := by decide +kernel
theorem dX1_solve_134 : decode cX1_solve 134 = .ok (.lsub, 1) := by decide +kernel
theorem dX1_solve_135 : decode cX1_solve 135 = .ok (.lload 9, 2) := by decide +kernel
theorem dX1_solve_137 : decode cX1_solve 137 = .ok (.lload_n 1, 1) := by decide +kernel
theorem dX1_solve_138 : decode cX1_solve 138 = .ok (.lmul, 1) := by decide +kernel
theorem dX1_solve_139 : decode cX1_solve 139 = .ok (.lload 7, 2) := by decide +kernel
theorem dX1_solve_141 : decode cX1_solve 141 = .ok (.lload 5, 2) := by decide +kernel
theorem dX1_solve_143 : decode cX1_solve 143 = .ok (.lmul, 1) := by decide +kernel
theorem dX1_solve_144 : decode cX1_solve 144 = .ok (.lsub, 1) := by decide +kernel
theorem dX1_solve_145 : decode cX1_solve 145 = .ok (.invokevirtual 46, 3) := by decide +kernel
theorem dX1_solve_148 : decode cX1_solve 148 = .ok (.goto 47, 3) := by decide +kernel
theorem dX1_solve_151 : decode cX1_solve 151 = .ok (.lload_n 1, 1) := by decide +kernel
theorem dX1_solve_152 : decode cX1_solve 152 = .ok (.lconst 0, 1) := by decide +kernel
theorem dX1_solve_153 : decode cX1_solve 153 = .ok (.lcmp, 1) := by decide +kernel
theorem dX1_solve_154 : decode cX1_solve 154 = .ok (.ifCond .le 15, 3) := by decide +kernel
theorem dX1_solve_157 : decode cX1_solve 157 = .ok (.aload_n 0, 1) := by decide +kernel
theorem dX1_solve_158 : decode cX1_solve 158 = .ok (.iconst 2, 1) := by decide +kernel
theorem dX1_solve_159 : decode cX1_solve 159 = .ok (.lload_n 1, 1) := by decide +kernel
theorem dX1_solve_160 : decode cX1_solve 160 = .ok (.lload 7, 2) := by decide +kernel
theorem dX1_solve_162 : decode cX1_solve 162 = .ok (.lconst 0, 1) := by decide +kernel
theorem dX1_solve_163 : decode cX1_solve 163 = .ok (.invokevirtual 46, 3) := by decide +kernel
theorem dX1_solve_166 : decode cX1_solve 166 = .ok (.goto 29, 3) := by decide +kernel
theorem dX1_solve_169 : decode cX1_solve 169 = .ok (.lload_n 3, 1) := by decide +kernel
theorem dX1_solve_170 : decode cX1_solve 170 = .ok (.lconst 0, 1) := by decide +kernel
theorem dX1_solve_171 : decode cX1_solve 171 = .ok (.lcmp, 1) := by decide +kernel
theorem dX1_solve_172 : decode cX1_solve 172 = .ok (.ifCond .le 15, 3) := by decide +kernel
theorem dX1_solve_175 : decode cX1_solve 175 = .ok (.aload_n 0, 1) := by decide +kernel
theorem dX1_solve_176 : decode cX1_solve 176 = .ok (.iconst 4, 1) := by decide +kernel
theorem dX1_solve_177 : decode cX1_solve 177 = .ok (.lload_n 3, 1) := by decide +kernel
theorem dX1_solve_178 : decode cX1_solve 178 = .ok (.lconst 0, 1) := by decide +kernel
theorem dX1_solve_179 : decode cX1_solve 179 = .ok (.lload 9, 2) := by decide +kernel
theorem dX1_solve_181 : decode cX1_solve 181 = .ok (.invokevirtual 46, 3) := by decide +kernel
theorem dX1_solve_184 : decode cX1_solve 184 = .ok (.goto 11, 3) := by decide +kernel
theorem dX1_solve_187 : decode cX1_solve 187 = .ok (.aload_n 0, 1) := by decide +kernel
theorem dX1_solve_188 : decode cX1_solve 188 = .ok (.iconst 1, 1) := by decide +kernel
theorem dX1_solve_189 : decode cX1_solve 189 = .ok (.lconst 1, 1) := by decide +kernel
theorem dX1_solve_190 : decode cX1_solve 190 = .ok (.lconst 0, 1) := by decide +kernel
theorem dX1_solve_191 : decode cX1_solve 191 = .ok (.lconst 0, 1) := by decide +kernel
theorem dX1_solve_192 : decode cX1_solve 192 = .ok (.invokevirtual 46, 3) := by decide +kernel
theorem dX1_solve_195 : decode cX1_solve 195 = .ok (.return_, 1) := by decide +kernel
theorem dX1_thousandfold_0 : decode cX1_thousandfold 0 = .ok (.aload_n 0, 1) := by decide +kernel
theorem dX1_thousandfold_1 : decode cX1_thousandfold 1 = .ok (.lconst 0, 1) := by decide +kernel
theorem dX1_thousandfold_2 : decode cX1_thousandfold 2 = .ok (.putfield 56, 3) := by decide +kernel
theorem dX1_thousandfold_5 : decode cX1_thousandfold 5 = .ok (.aload_n 0, 1) := by decide +kernel
theorem dX1_thousandfold_6 : decode cX1_thousandfold 6 = .ok (.lconst 0, 1) := by decide +kernel
theorem dX1_thousandfold_7 : decode cX1_thousandfold 7 = .ok (.putfield 59, 3) := by decide +kernel
theorem dX1_thousandfold_10 : decode cX1_thousandfold 10 = .ok (.aload_n 0, 1) := by decide +kernel
theorem dX1_thousandfold_11 : decode cX1_thousandfold 11 = .ok (.aload_n 0, 1) := by decide +kernel
theorem dX1_thousandfold_12 : decode cX1_thousandfold 12 = .ok (.getfield 9, 3) := by decide +kernel
theorem dX1_thousandfold_15 : decode cX1_thousandfold 15 = .ok (.ldc2_w 62, 3) := by decide +kernel
theorem dX1_thousandfold_18 : decode cX1_thousandfold 18 = .ok (.aload_n 0, 1) := by decide +kernel
theorem dX1_thousandfold_19 : decode cX1_thousandfold 19 = .ok (.getfield 22, 3) := by decide +kernel
theorem dX1_thousandfold_22 : decode cX1_thousandfold 22 = .ok (.lmul, 1) := by decide +kernel
theorem dX1_thousandfold_23 : decode cX1_thousandfold 23 = .ok (.invokevirtual 64, 3) := by decide +kernel
theorem dX1_thousandfold_26 : decode cX1_thousandfold 26 = .ok (.aload_n 0, 1) := by decide +kernel
theorem dX1_thousandfold_27 : decode cX1_thousandfold 27 = .ok (.aload_n 0, 1) := by decide +kernel
theorem dX1_thousandfold_28 : decode cX1_thousandfold 28 = .ok (.getfield 50, 3) := by decide +kernel
theorem dX1_thousandfold_31 : decode cX1_thousandfold 31 = .ok (.ldc2_w 62, 3) := by decide +kernel
theorem dX1_thousandfold_34 : decode cX1_thousandfold 34 = .ok (.aload_n 0, 1) := by decide +kernel
theorem dX1_thousandfold_35 : decode cX1_thousandfold 35 = .ok (.getfield 19, 3) := by decide +kernel
theorem dX1_thousandfold_38 : decode cX1_thousandfold 38 = .ok (.iload_n 1, 1) := by decide +kernel
theorem dX1_thousandfold_39 : decode cX1_thousandfold 39 = .ok (.i2l, 1) := by decide +kernel
theorem dX1_thousandfold_40 : decode cX1_thousandfold 40 = .ok (.lmul, 1) := by decide +kernel
theorem dX1_thousandfold_41 : decode cX1_thousandfold 41 = .ok (.aload_n 0, 1) := by decide +kernel
theorem dX1_thousandfold_42 : decode cX1_thousandfold 42 = .ok (.getfield 25, 3) := by decide +kernel
theorem dX1_thousandfold_45 : decode cX1_thousandfold 45 = .ok (.lsub, 1) := by decide +kernel
theorem dX1_thousandfold_46 : decode cX1_thousandfold 46 = .ok (.lmul, 1) := by decide +kernel
theorem dX1_thousandfold_47 : decode cX1_thousandfold 47 = .ok (.invokevirtual 64, 3) := by decide +kernel
theorem dX1_thousandfold_50 : decode cX1_thousandfold 50 = .ok (.aload_n 0, 1) := by decide +kernel
theorem dX1_thousandfold_51 : decode cX1_thousandfold 51 = .ok (.aload_n 0, 1) := by decide +kernel
theorem dX1_thousandfold_52 : decode cX1_thousandfold 52 = .ok (.getfield 53, 3) := by decide +kernel
theorem dX1_thousandfold_55 : decode cX1_thousandfold 55 = .ok (.ldc2_w 62, 3) := by decide +kernel
theorem dX1_thousandfold_58 : decode cX1_thousandfold 58 = .ok (.aload_n 0, 1) := by decide +kernel
theorem dX1_thousandfold_59 : decode cX1_thousandfold 59 = .ok (.getfield 19, 3) := by decide +kernel
theorem dX1_thousandfold_62 : decode cX1_thousandfold 62 = .ok (.iload_n 2, 1) := by decide +kernel
theorem dX1_thousandfold_63 : decode cX1_thousandfold 63 = .ok (.i2l, 1) := by decide +kernel
theorem dX1_thousandfold_64 : decode cX1_thousandfold 64 = .ok (.lmul, 1) := by decide +kernel
theorem dX1_thousandfold_65 : decode cX1_thousandfold 65 = .ok (.aload_n 0, 1) := by decide +kernel
theorem dX1_thousandfold_66 : decode cX1_thousandfold 66 = .ok (.getfield 28, 3) := by decide +kernel
theorem dX1_thousandfold_69 : decode cX1_thousandfold 69 = .ok (.lsub, 1) := by decide +kernel
theorem dX1_thousandfold_70 : decode cX1_thousandfold 70 = .ok (.lmul, 1) := by decide +kernel
theorem dX1_thousandfold_71 : decode cX1_thousandfold 71 = .ok (.invokevirtual 64, 3) := by decide +kernel
theorem dX1_thousandfold_74 : decode cX1_thousandfold 74 = .ok (.aload_n 0, 1) := by decide +kernel
theorem dX1_thousandfold_75 : decode cX1_thousandfold 75 = .ok (.getfield 56, 3) := by decide +kernel
theorem dX1_thousandfold_78 : decode cX1_thousandfold 78 = .ok (.lreturn, 1) := by decide +kernel
