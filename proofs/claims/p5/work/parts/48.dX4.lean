theorem dX4_add_0 : decode cX4_add 0 = .ok (.aload_n 0, 1) := by decide +kernel
theorem dX4_add_1 : decode cX4_add 1 = .ok (.getfield 21, 3) := by decide +kernel
theorem dX4_add_4 : decode cX4_add 4 = .ok (.bipush 120, 2) := by decide +kernel
theorem dX4_add_6 : decode cX4_add 6 = .ok (.if_icmp .ge 33, 3) := by decide +kernel
theorem dX4_add_9 : decode cX4_add 9 = .ok (.aload_n 0, 1) := by decide +kernel
theorem dX4_add_10 : decode cX4_add 10 = .ok (.getfield 9, 3) := by decide +kernel
theorem dX4_add_13 : decode cX4_add 13 = .ok (.aload_n 0, 1) := by decide +kernel
theorem dX4_add_14 : decode cX4_add 14 = .ok (.getfield 21, 3) := by decide +kernel
theorem dX4_add_17 : decode cX4_add 17 = .ok (.iload_n 1, 1) := by decide +kernel
theorem dX4_add_18 : decode cX4_add 18 = .ok (.iastore, 1) := by decide +kernel
theorem dX4_add_19 : decode cX4_add 19 = .ok (.aload_n 0, 1) := by decide +kernel
theorem dX4_add_20 : decode cX4_add 20 = .ok (.getfield 15, 3) := by decide +kernel
theorem dX4_add_23 : decode cX4_add 23 = .ok (.aload_n 0, 1) := by decide +kernel
theorem dX4_add_24 : decode cX4_add 24 = .ok (.getfield 21, 3) := by decide +kernel
theorem dX4_add_27 : decode cX4_add 27 = .ok (.iload_n 2, 1) := by decide +kernel
theorem dX4_add_28 : decode cX4_add 28 = .ok (.iastore, 1) := by decide +kernel
theorem dX4_add_29 : decode cX4_add 29 = .ok (.aload_n 0, 1) := by decide +kernel
theorem dX4_add_30 : decode cX4_add 30 = .ok (.dup, 1) := by decide +kernel
theorem dX4_add_31 : decode cX4_add 31 = .ok (.getfield 21, 3) := by decide +kernel
theorem dX4_add_34 : decode cX4_add 34 = .ok (.iconst 1, 1) := by decide +kernel
theorem dX4_add_35 : decode cX4_add 35 = .ok (.iadd, 1) := by decide +kernel
theorem dX4_add_36 : decode cX4_add 36 = .ok (.putfield 21, 3) := by decide +kernel
theorem dX4_add_39 : decode cX4_add 39 = .ok (.return_, 1) := by decide +kernel
theorem dX4_isAhead_0 : decode cX4_isAhead 0 = .ok (.iload_n 0, 1) := by decide +kernel
theorem dX4_isAhead_1 : decode cX4_isAhead 1 = .ok (.bipush 6, 2) := by decide +kernel
theorem dX4_isAhead_3 : decode cX4_isAhead 3 = .ok (.if_icmp .eq 15, 3) := by decide +kernel
theorem dX4_isAhead_6 : decode cX4_isAhead 6 = .ok (.iload_n 0, 1) := by decide +kernel
theorem dX4_isAhead_7 : decode cX4_isAhead 7 = .ok (.bipush 7, 2) := by decide +kernel
theorem dX4_isAhead_9 : decode cX4_isAhead 9 = .ok (.if_icmp .eq 9, 3) := by decide +kernel
theorem dX4_isAhead_12 : decode cX4_isAhead 12 = .ok (.iload_n 0, 1) := by decide +kernel
theorem dX4_isAhead_13 : decode cX4_isAhead 13 = .ok (.bipush 8, 2) := by decide +kernel
theorem dX4_isAhead_15 : decode cX4_isAhead 15 = .ok (.if_icmp .ne 7, 3) := by decide +kernel
theorem dX4_isAhead_18 : decode cX4_isAhead 18 = .ok (.iconst 1, 1) := by decide +kernel
theorem dX4_isAhead_19 : decode cX4_isAhead 19 = .ok (.goto 4, 3) := by decide +kernel
theorem dX4_isAhead_22 : decode cX4_isAhead 22 = .ok (.iconst 0, 1) := by decide +kernel
theorem dX4_isAhead_23 : decode cX4_isAhead 23 = .ok (.ireturn, 1) := by decide +kernel
theorem dX4_workOut_0 : decode cX4_workOut 0 = .ok (.iconst 0, 1) := by decide +kernel
theorem dX4_workOut_1 : decode cX4_workOut 1 = .ok (.istore_n 2, 1) := by decide +kernel
theorem dX4_workOut_2 : decode cX4_workOut 2 = .ok (.iconst 0, 1) := by decide +kernel
theorem dX4_workOut_3 : decode cX4_workOut 3 = .ok (.istore_n 3, 1) := by decide +kernel
theorem dX4_workOut_4 : decode cX4_workOut 4 = .ok (.iload_n 3, 1) := by decide +kernel
theorem dX4_workOut_5 : decode cX4_workOut 5 = .ok (.aload_n 0, 1) := by decide +kernel
theorem dX4_workOut_6 : decode cX4_workOut 6 = .ok (.getfield 21, 3) := by decide +kernel
theorem dX4_workOut_9 : decode cX4_workOut 9 = .ok (.if_icmp .ge 163, 3) := by decide +kernel
theorem dX4_workOut_12 : decode cX4_workOut 12 = .ok (.aload_n 0, 1) := by decide +kernel
theorem dX4_workOut_13 : decode cX4_workOut 13 = .ok (.getfield 9, 3) := by decide +kernel
theorem dX4_workOut_16 : decode cX4_workOut 16 = .ok (.iload_n 3, 1) := by decide +kernel
theorem dX4_workOut_17 : decode cX4_workOut 17 = .ok (.iaload, 1) := by decide +kernel
theorem dX4_workOut_18 : decode cX4_workOut 18 = .ok (.istore 4, 2) := by decide +kernel
theorem dX4_workOut_20 : decode cX4_workOut 20 = .ok (.aload_n 0, 1) := by decide +kernel
theorem dX4_workOut_21 : decode cX4_workOut 21 = .ok (.getfield 15, 3) := by decide +kernel
theorem dX4_workOut_24 : decode cX4_workOut 24 = .ok (.iload_n 3, 1) := by decide +kernel
theorem dX4_workOut_25 : decode cX4_workOut 25 = .ok (.iaload, 1) := by decide +kernel
theorem dX4_workOut_26 : decode cX4_workOut 26 = .ok (.istore 5, 2) := by decide +kernel
theorem dX4_workOut_28 : decode cX4_workOut 28 = .ok (.iload 4, 2) := by decide +kernel
theorem dX4_workOut_30 : decode cX4_workOut 30 = .ok (.iconst 2, 1) := by decide +kernel
theorem dX4_workOut_31 : decode cX4_workOut 31 = .ok (.if_icmp .ne 23, 3) := by decide +kernel
theorem dX4_workOut_34 : decode cX4_workOut 34 = .ok (.iload_n 2, 1) := by decide +kernel
theorem dX4_workOut_35 : decode cX4_workOut 35 = .ok (.bipush 120, 2) := by decide +kernel
theorem dX4_workOut_37 : decode cX4_workOut 37 = .ok (.if_icmp .ge 17, 3) := by decide +kernel
theorem dX4_workOut_40 : decode cX4_workOut 40 = .ok (.aload_n 0, 1) := by decide +kernel
theorem dX4_workOut_41 : decode cX4_workOut 41 = .ok (.getfield 18, 3) := by decide +kernel
theorem dX4_workOut_44 : decode cX4_workOut 44 = .ok (.iload_n 2, 1) := by decide +kernel
theorem dX4_workOut_45 : decode cX4_workOut 45 = .ok (.iload 5, 2) := by decide +kernel
theorem dX4_workOut_47 : decode cX4_workOut 47 = .ok (.iastore, 1) := by decide +kernel
theorem dX4_workOut_48 : decode cX4_workOut 48 = .ok (.iinc 2 1, 3) := by decide +kernel
theorem dX4_workOut_51 : decode cX4_workOut 51 = .ok (.goto 115, 3) := by decide +kernel
theorem dX4_workOut_54 : decode cX4_workOut 54 = .ok (.iload 4, 2) := by decide +kernel
theorem dX4_workOut_56 : decode cX4_workOut 56 = .ok (.iconst 3, 1) := by decide +kernel
theorem dX4_workOut_57 : decode cX4_workOut 57 = .ok (.if_icmp .ne 37, 3) := by decide +kernel
theorem dX4_workOut_60 : decode cX4_workOut 60 = .ok (.iload_n 2, 1) := by decide +kernel
theorem dX4_workOut_61 : decode cX4_workOut 61 = .ok (.bipush 120, 2) := by decide +kernel
theorem dX4_workOut_63 : decode cX4_workOut 63 = .ok (.if_icmp .ge 31, 3) := by decide +kernel
theorem dX4_workOut_66 : decode cX4_workOut 66 = .ok (.iload 5, 2) := by decide +kernel
theorem dX4_workOut_68 : decode cX4_workOut 68 = .ok (.ifCond .lt 26, 3) := by decide +kernel
theorem dX4_workOut_71 : decode cX4_workOut 71 = .ok (.iload 5, 2) := by decide +kernel
theorem dX4_workOut_73 : decode cX4_workOut 73 = .ok (.aload_n 1, 1) := by decide +kernel
theorem dX4_workOut_74 : decode cX4_workOut 74 = .ok (.arraylength, 1) := by decide +kernel
theorem dX4_workOut_75 : decode cX4_workOut 75 = .ok (.if_icmp .ge 19, 3) := by decide +kernel
theorem dX4_workOut_78 : decode cX4_workOut 78 = .ok (.aload_n 0, 1) := by decide +kernel
theorem dX4_workOut_79 : decode cX4_workOut 79 = .ok (.getfield 18, 3) := by decide +kernel
theorem dX4_workOut_82 : decode cX4_workOut 82 = .ok (.iload_n 2, 1) := by decide +kernel
theorem dX4_workOut_83 : decode cX4_workOut 83 = .ok (.aload_n 1, 1) := by decide +kernel
theorem dX4_workOut_84 : decode cX4_workOut 84 = .ok (.iload 5, 2) := by decide +kernel
theorem dX4_workOut_86 : decode cX4_workOut 86 = .ok (.iaload, 1) := by decide +kernel
theorem dX4_workOut_87 : decode cX4_workOut 87 = .ok (.iastore, 1) := by decide +kernel
theorem dX4_workOut_88 : decode cX4_workOut 88 = .ok (.iinc 2 1, 3) := by decide +kernel
theorem dX4_workOut_91 : decode cX4_workOut 91 = .ok (.goto 75, 3) := by decide +kernel
theorem dX4_workOut_94 : decode cX4_workOut 94 = .ok (.iload 4, 2) := by decide +kernel
theorem dX4_workOut_96 : decode cX4_workOut 96 = .ok (.invokestatic 25, 3) := by decide +kernel
theorem dX4_workOut_99 : decode cX4_workOut 99 = .ok (.ifCond .eq 32, 3) := by decide +kernel
theorem dX4_workOut_102 : decode cX4_workOut 102 = .ok (.iload_n 2, 1) := by decide +kernel
theorem dX4_workOut_103 : decode cX4_workOut 103 = .ok (.iconst 1, 1) := by decide +kernel
theorem dX4_workOut_104 : decode cX4_workOut 104 = .ok (.if_icmp .lt 27, 3) := by decide +kernel
theorem dX4_workOut_107 : decode cX4_workOut 107 = .ok (.aload_n 0, 1) := by decide +kernel
theorem dX4_workOut_108 : decode cX4_workOut 108 = .ok (.getfield 18, 3) := by decide +kernel
theorem dX4_workOut_111 : decode cX4_workOut 111 = .ok (.iload_n 2, 1) := by decide +kernel
theorem dX4_workOut_112 : decode cX4_workOut 112 = .ok (.iconst 1, 1) := by decide +kernel
theorem dX4_workOut_113 : decode cX4_workOut 113 = .ok (.isub, 1) := by decide +kernel
theorem dX4_workOut_114 : decode cX4_workOut 114 = .ok (.iload 4, 2) := by decide +kernel
theorem dX4_workOut_116 : decode cX4_workOut 116 = .ok (.aload_n 0, 1) := by decide +kernel
theorem dX4_workOut_117 : decode cX4_workOut 117 = .ok (.getfield 18, 3) := by decide +kernel
theorem dX4_workOut_120 : decode cX4_workOut 120 = .ok (.iload_n 2, 1) := by decide +kernel
theorem dX4_workOut_121 : decode cX4_workOut 121 = .ok (.iconst 1, 1) := by decide +kernel
theorem dX4_workOut_122 : decode cX4_workOut 122 = .ok (.isub, 1) := by decide +kernel
theorem dX4_workOut_123 : decode cX4_workOut 123 = .ok (.iaload, 1) := by decide +kernel
theorem dX4_workOut_124 : decode cX4_workOut 124 = .ok (.invokestatic 29, 3) := by decide +kernel
theorem dX4_workOut_127 : decode cX4_workOut 127 = .ok (.iastore, 1) := by decide +kernel
theorem dX4_workOut_128 : decode cX4_workOut 128 = .ok (.goto 38, 3) := by decide +kernel
theorem dX4_workOut_131 : decode cX4_workOut 131 = .ok (.iload_n 2, 1) := by decide +kernel
theorem dX4_workOut_132 : decode cX4_workOut 132 = .ok (.iconst 2, 1) := by decide +kernel
theorem dX4_workOut_133 : decode cX4_workOut 133 = .ok (.if_icmp .lt 33, 3) := by decide +kernel
theorem dX4_workOut_136 : decode cX4_workOut 136 = .ok (.iinc 2 (-1), 3) := by decide +kernel
theorem dX4_workOut_139 : decode cX4_workOut 139 = .ok (.aload_n 0, 1) := by decide +kernel
theorem dX4_workOut_140 : decode cX4_workOut 140 = .ok (.getfield 18, 3) := by decide +kernel
theorem dX4_workOut_143 : decode cX4_workOut 143 = .ok (.iload_n 2, 1) := by decide +kernel
theorem dX4_workOut_144 : decode cX4_workOut 144 = .ok (.iconst 1, 1) := by decide +kernel
theorem dX4_workOut_145 : decode cX4_workOut 145 = .ok (.isub, 1) := by decide +kernel
theorem dX4_workOut_146 : decode cX4_workOut 146 = .ok (.iload 4, 2) := by decide +kernel
theorem dX4_workOut_148 : decode cX4_workOut 148 = .ok (.aload_n 0, 1) := by decide +kernel
theorem dX4_workOut_149 : decode cX4_workOut 149 = .ok (.getfield 18, 3) := by decide +kernel
theorem dX4_workOut_152 : decode cX4_workOut 152 = .ok (.iload_n 2, 1) := by decide +kernel
theorem dX4_workOut_153 : decode cX4_workOut 153 = .ok (.iconst 1, 1) := by decide +kernel
theorem dX4_workOut_154 : decode cX4_workOut 154 = .ok (.isub, 1) := by decide +kernel
theorem dX4_workOut_155 : decode cX4_workOut 155 = .ok (.iaload, 1) := by decide +kernel
theorem dX4_workOut_156 : decode cX4_workOut 156 = .ok (.aload_n 0, 1) := by decide +kernel
theorem dX4_workOut_157 : decode cX4_workOut 157 = .ok (.getfield 18, 3) := by decide +kernel
theorem dX4_workOut_160 : decode cX4_workOut 160 = .ok (.iload_n 2, 1) := by decide +kernel
theorem dX4_workOut_161 : decode cX4_workOut 161 = .ok (.iaload, 1) := by decide +kernel
theorem dX4_workOut_162 : decode cX4_workOut 162 = .ok (.invokestatic 33, 3) := by decide +kernel
theorem dX4_workOut_165 : decode cX4_workOut 165 = .ok (.iastore, 1) := by decide +kernel
theorem dX4_workOut_166 : decode cX4_workOut 166 = .ok (.iinc 3 1, 3) := by decide +kernel
theorem dX4_workOut_169 : decode cX4_workOut 169 = .ok (.goto (-165), 3) := by decide +kernel
theorem dX4_workOut_172 : decode cX4_workOut 172 = .ok (.iload_n 2, 1) := by decide +kernel
theorem dX4_workOut_173 : decode cX4_workOut 173 = .ok (.ifCond .le 14, 3) := by decide +kernel
theorem dX4_workOut_176 : decode cX4_workOut 176 = .ok (.aload_n 0, 1) := by decide +kernel
theorem dX4_workOut_177 : decode cX4_workOut 177 = .ok (.getfield 18, 3) := by decide +kernel
theorem dX4_workOut_180 : decode cX4_workOut 180 = .ok (.iload_n 2, 1) := by decide +kernel
theorem dX4_workOut_181 : decode cX4_workOut 181 = .ok (.iconst 1, 1) := by decide +kernel
theorem dX4_workOut_182 : decode cX4_workOut 182 = .ok (.isub, 1) := by decide +kernel
theorem dX4_workOut_183 : decode cX4_workOut 183 = .ok (.iaload, 1) := by decide +kernel
theorem dX4_workOut_184 : decode cX4_workOut 184 = .ok (.goto 4, 3) := by decide +kernel
theorem dX4_workOut_187 : decode cX4_workOut 187 = .ok (.iconst 0, 1) := by decide +kernel
theorem dX4_workOut_188 : decode cX4_workOut 188 = .ok (.ireturn, 1) := by decide +kernel
theorem dX4_workOutOne_0 : decode cX4_workOutOne 0 = .ok (.iload_n 0, 1) := by decide +kernel
theorem dX4_workOutOne_1 : decode cX4_workOutOne 1 = .ok (.lookupswitch 48 #[(6, 27), (7, 37)], 27) := by decide +kernel
theorem dX4_workOutOne_28 : decode cX4_workOutOne 28 = .ok (.iload_n 1, 1) := by decide +kernel
theorem dX4_workOutOne_29 : decode cX4_workOutOne 29 = .ok (.ifCond .ne 7, 3) := by decide +kernel
theorem dX4_workOutOne_32 : decode cX4_workOutOne 32 = .ok (.iconst 1, 1) := by decide +kernel
theorem dX4_workOutOne_33 : decode cX4_workOutOne 33 = .ok (.goto 4, 3) := by decide +kernel
theorem dX4_workOutOne_36 : decode cX4_workOutOne 36 = .ok (.iconst 0, 1) := by decide +kernel
theorem dX4_workOutOne_37 : decode cX4_workOutOne 37 = .ok (.ireturn, 1) := by decide +kernel
theorem dX4_workOutOne_38 : decode cX4_workOutOne 38 = .ok (.iload_n 1, 1) := by decide +kernel
theorem dX4_workOutOne_39 : decode cX4_workOutOne 39 = .ok (.ifCond .ge 8, 3) := by decide +kernel
theorem dX4_workOutOne_42 : decode cX4_workOutOne 42 = .ok (.iload_n 1, 1) := by decide +kernel
theorem dX4_workOutOne_43 : decode cX4_workOutOne 43 = .ok (.ineg, 1) := by decide +kernel
theorem dX4_workOutOne_44 : decode cX4_workOutOne 44 = .ok (.goto 4, 3) := by decide +kernel
theorem dX4_workOutOne_47 : decode cX4_workOutOne 47 = .ok (.iload_n 1, 1) := by decide +kernel
theorem dX4_workOutOne_48 : decode cX4_workOutOne 48 = .ok (.ireturn, 1) := by decide +kernel
theorem dX4_workOutOne_49 : decode cX4_workOutOne 49 = .ok (.iload_n 1, 1) := by decide +kernel
theorem dX4_workOutOne_50 : decode cX4_workOutOne 50 = .ok (.ineg, 1) := by decide +kernel
theorem dX4_workOutOne_51 : decode cX4_workOutOne 51 = .ok (.ireturn, 1) := by decide +kernel
theorem dX4_workOutTwo_0 : decode cX4_workOutTwo 0 = .ok (.iload_n 0, 1) := by decide +kernel
theorem dX4_workOutTwo_1 : decode cX4_workOutTwo 1 = .ok (.lookupswitch 148 #[(4, 75), (5, 89), (42, 144), (43, 136), (45, 140), (60, 103), (61, 114), (62, 125)], 75) := by decide +kernel
theorem dX4_workOutTwo_76 : decode cX4_workOutTwo 76 = .ok (.iload_n 1, 1) := by decide +kernel
theorem dX4_workOutTwo_77 : decode cX4_workOutTwo 77 = .ok (.ifCond .ne 7, 3) := by decide +kernel
theorem dX4_workOutTwo_80 : decode cX4_workOutTwo 80 = .ok (.iload_n 2, 1) := by decide +kernel
theorem dX4_workOutTwo_81 : decode cX4_workOutTwo 81 = .ok (.ifCond .eq 7, 3) := by decide +kernel
theorem dX4_workOutTwo_84 : decode cX4_workOutTwo 84 = .ok (.iconst 1, 1) := by decide +kernel
theorem dX4_workOutTwo_85 : decode cX4_workOutTwo 85 = .ok (.goto 4, 3) := by decide +kernel
theorem dX4_workOutTwo_88 : decode cX4_workOutTwo 88 = .ok (.iconst 0, 1) := by decide +kernel
theorem dX4_workOutTwo_89 : decode cX4_workOutTwo 89 = .ok (.ireturn, 1) := by decide +kernel
theorem dX4_workOutTwo_90 : decode cX4_workOutTwo 90 = .ok (.iload_n 1, 1) := by decide +kernel
theorem dX4_workOutTwo_91 : decode cX4_workOutTwo 91 = .ok (.ifCond .eq 11, 3) := by decide +kernel
theorem dX4_workOutTwo_94 : decode cX4_workOutTwo 94 = .ok (.iload_n 2, 1) := by decide +kernel
theorem dX4_workOutTwo_95 : decode cX4_workOutTwo 95 = .ok (.ifCond .eq 7, 3) := by decide +kernel
theorem dX4_workOutTwo_98 : decode cX4_workOutTwo 98 = .ok (.iconst 1, 1) := by decide +kernel
theorem dX4_workOutTwo_99 : decode cX4_workOutTwo 99 = .ok (.goto 4, 3) := by decide +kernel
theorem dX4_workOutTwo_102 : decode cX4_workOutTwo 102 = .ok (.iconst 0, 1) := by decide +kernel
theorem dX4_workOutTwo_103 : decode cX4_workOutTwo 103 = .ok (.ireturn, 1) := by decide +kernel
theorem dX4_workOutTwo_104 : decode cX4_workOutTwo 104 = .ok (.iload_n 1, 1) := by decide +kernel
theorem dX4_workOutTwo_105 : decode cX4_workOutTwo 105 = .ok (.iload_n 2, 1) := by decide +kernel
theorem dX4_workOutTwo_106 : decode cX4_workOutTwo 106 = .ok (.if_icmp .ge 7, 3) := by decide +kernel
theorem dX4_workOutTwo_109 : decode cX4_workOutTwo 109 = .ok (.iconst 1, 1) := by decide +kernel
theorem dX4_workOutTwo_110 : decode cX4_workOutTwo 110 = .ok (.goto 4, 3) := by decide +kernel
theorem dX4_workOutTwo_113 : decode cX4_workOutTwo 113 = .ok (.iconst 0, 1) := by decide +kernel
theorem dX4_workOutTwo_114 : decode cX4_workOutTwo 114 = .ok (.ireturn, 1) := by decide +kernel
theorem dX4_workOutTwo_115 : decode cX4_workOutTwo 115 = .ok (.iload_n 1, 1) := by decide +kernel
theorem dX4_workOutTwo_116 : decode cX4_workOutTwo 116 = .ok (.iload_n 2, 1) := by decide +kernel
theorem dX4_workOutTwo_117 : decode cX4_workOutTwo 117 = .ok (.if_icmp .ne 7, 3) := by decide +kernel
theorem dX4_workOutTwo_120 : decode cX4_workOutTwo 120 = .ok (.iconst 1, 1) := by decide +kernel
theorem dX4_workOutTwo_121 : decode cX4_workOutTwo 121 = .ok (.goto 4, 3) := by decide +kernel
theorem dX4_workOutTwo_124 : decode cX4_workOutTwo 124 = .ok (.iconst 0, 1) := by decide +kernel
theorem dX4_workOutTwo_125 : decode cX4_workOutTwo 125 = .ok (.ireturn, 1) := by decide +kernel
theorem dX4_workOutTwo_126 : decode cX4_workOutTwo 126 = .ok (.iload_n 1, 1) := by decide +kernel
theorem dX4_workOutTwo_127 : decode cX4_workOutTwo 127 = .ok (.iload_n 2, 1) := by decide +kernel
theorem dX4_workOutTwo_128 : decode cX4_workOutTwo 128 = .ok (.if_icmp .le 7, 3) := by decide +kernel
theorem dX4_workOutTwo_131 : decode cX4_workOutTwo 131 = .ok (.iconst 1, 1) := by decide +kernel
theorem dX4_workOutTwo_132 : decode cX4_workOutTwo 132 = .ok (.goto 4, 3) := by decide +kernel
theorem dX4_workOutTwo_135 : decode cX4_workOutTwo 135 = .ok (.iconst 0, 1) := by decide +kernel
theorem dX4_workOutTwo_136 : decode cX4_workOutTwo 136 = .ok (.ireturn, 1) := by decide +kernel
theorem dX4_workOutTwo_137 : decode cX4_workOutTwo 137 = .ok (.iload_n 1, 1) := by decide +kernel
theorem dX4_workOutTwo_138 : decode cX4_workOutTwo 138 = .ok (.iload_n 2, 1) := by decide +kernel
theorem dX4_workOutTwo_139 : decode cX4_workOutTwo 139 = .ok (.iadd, 1) := by decide +kernel
theorem dX4_workOutTwo_140 : decode cX4_workOutTwo 140 = .ok (.ireturn, 1) := by decide +kernel
theorem dX4_workOutTwo_141 : decode cX4_workOutTwo 141 = .ok (.iload_n 1, 1) := by decide +kernel
theorem dX4_workOutTwo_142 : decode cX4_workOutTwo 142 = .ok (.iload_n 2, 1) := by decide +kernel
theorem dX4_workOutTwo_143 : decode cX4_workOutTwo 143 = .ok (.isub, 1) := by decide +kernel
theorem dX4_workOutTwo_144 : decode cX4_workOutTwo 144 = .ok (.ireturn, 1) := by decide +kernel
theorem dX4_workOutTwo_145 : decode cX4_workOutTwo 145 = .ok (.iload_n 1, 1) := by decide +kernel
theorem dX4_workOutTwo_146 : decode cX4_workOutTwo 146 = .ok (.iload_n 2, 1) := by decide +kernel
theorem dX4_workOutTwo_147 : decode cX4_workOutTwo 147 = .ok (.imul, 1) := by decide +kernel
theorem dX4_workOutTwo_148 : decode cX4_workOutTwo 148 = .ok (.ireturn, 1) := by decide +kernel
theorem dX4_workOutTwo_149 : decode cX4_workOutTwo 149 = .ok (.iload_n 2, 1) := by decide +kernel
theorem dX4_workOutTwo_150 : decode cX4_workOutTwo 150 = .ok (.ifCond .ne 7, 3) := by decide +kernel
theorem dX4_workOutTwo_153 : decode cX4_workOutTwo 153 = .ok (.iconst 0, 1) := by decide +kernel
theorem dX4_workOutTwo_154 : decode cX4_workOutTwo 154 = .ok (.goto 6, 3) := by decide +kernel
theorem dX4_workOutTwo_157 : decode cX4_workOutTwo 157 = .ok (.iload_n 1, 1) := by decide +kernel
theorem dX4_workOutTwo_158 : decode cX4_workOutTwo 158 = .ok (.iload_n 2, 1) := by decide +kernel
theorem dX4_workOutTwo_159 : decode cX4_workOutTwo 159 = .ok (.idiv, 1) := by decide +kernel
theorem dX4_workOutTwo_160 : decode cX4_workOutTwo 160 = .ok (.ireturn, 1) := by decide +kernel
