section
theorem dX9_advance_0 : decode cX9_advance 0 = .ok (.aload_n 0, 1) := dq_42 (by decide +kernel)
theorem dX9_advance_1 : decode cX9_advance 1 = .ok (.getfield 287, 3) := dq_180 (by decide +kernel)
theorem dX9_advance_4 : decode cX9_advance 4 = .ok (.aload_n 0, 1) := dq_42 (by decide +kernel)
theorem dX9_advance_5 : decode cX9_advance 5 = .ok (.getfield 284, 3) := dq_180 (by decide +kernel)
theorem dX9_advance_8 : decode cX9_advance 8 = .ok (.if_icmp .ge 30, 3) := dq_162 (by decide +kernel)
theorem dX9_advance_11 : decode cX9_advance 11 = .ok (.aload_n 0, 1) := dq_42 (by decide +kernel)
theorem dX9_advance_12 : decode cX9_advance 12 = .ok (.getfield 66, 3) := dq_180 (by decide +kernel)
theorem dX9_advance_15 : decode cX9_advance 15 = .ok (.aload_n 0, 1) := dq_42 (by decide +kernel)
theorem dX9_advance_16 : decode cX9_advance 16 = .ok (.getfield 287, 3) := dq_180 (by decide +kernel)
theorem dX9_advance_19 : decode cX9_advance 19 = .ok (.baload, 1) := dq_51 (by decide +kernel)
theorem dX9_advance_20 : decode cX9_advance 20 = .ok (.bipush 32, 2) := dq_16 (by decide +kernel)
theorem dX9_advance_22 : decode cX9_advance 22 = .ok (.if_icmp .ne 16, 3) := dq_160 (by decide +kernel)
theorem dX9_advance_25 : decode cX9_advance 25 = .ok (.aload_n 0, 1) := dq_42 (by decide +kernel)
theorem dX9_advance_26 : decode cX9_advance 26 = .ok (.dup, 1) := dq_89 (by decide +kernel)
theorem dX9_advance_27 : decode cX9_advance 27 = .ok (.getfield 287, 3) := dq_180 (by decide +kernel)
theorem dX9_advance_30 : decode cX9_advance 30 = .ok (.iconst 1, 1) := dq_4 (by decide +kernel)
theorem dX9_advance_31 : decode cX9_advance 31 = .ok (.iadd, 1) := dq_96 (by decide +kernel)
theorem dX9_advance_32 : decode cX9_advance 32 = .ok (.putfield 287, 3) := dq_181 (by decide +kernel)
theorem dX9_advance_35 : decode cX9_advance 35 = .ok (.goto (-35), 3) := dq_167 (by decide +kernel)
theorem dX9_advance_38 : decode cX9_advance 38 = .ok (.aload_n 0, 1) := dq_42 (by decide +kernel)
theorem dX9_advance_39 : decode cX9_advance 39 = .ok (.aload_n 0, 1) := dq_42 (by decide +kernel)
theorem dX9_advance_40 : decode cX9_advance 40 = .ok (.getfield 287, 3) := dq_180 (by decide +kernel)
theorem dX9_advance_43 : decode cX9_advance 43 = .ok (.putfield 290, 3) := dq_181 (by decide +kernel)
theorem dX9_advance_46 : decode cX9_advance 46 = .ok (.aload_n 0, 1) := dq_42 (by decide +kernel)
theorem dX9_advance_47 : decode cX9_advance 47 = .ok (.getfield 287, 3) := dq_180 (by decide +kernel)
theorem dX9_advance_50 : decode cX9_advance 50 = .ok (.aload_n 0, 1) := dq_42 (by decide +kernel)
theorem dX9_advance_51 : decode cX9_advance 51 = .ok (.getfield 284, 3) := dq_180 (by decide +kernel)
theorem dX9_advance_54 : decode cX9_advance 54 = .ok (.if_icmp .ne 9, 3) := dq_160 (by decide +kernel)
theorem dX9_advance_57 : decode cX9_advance 57 = .ok (.aload_n 0, 1) := dq_42 (by decide +kernel)
theorem dX9_advance_58 : decode cX9_advance 58 = .ok (.iconst 0, 1) := dq_3 (by decide +kernel)
theorem dX9_advance_59 : decode cX9_advance 59 = .ok (.putfield 293, 3) := dq_181 (by decide +kernel)
theorem dX9_advance_62 : decode cX9_advance 62 = .ok (.return_, 1) := dq_177 (by decide +kernel)
theorem dX9_advance_63 : decode cX9_advance 63 = .ok (.aload_n 0, 1) := dq_42 (by decide +kernel)
theorem dX9_advance_64 : decode cX9_advance 64 = .ok (.getfield 66, 3) := dq_180 (by decide +kernel)
theorem dX9_advance_67 : decode cX9_advance 67 = .ok (.aload_n 0, 1) := dq_42 (by decide +kernel)
theorem dX9_advance_68 : decode cX9_advance 68 = .ok (.getfield 287, 3) := dq_180 (by decide +kernel)
theorem dX9_advance_71 : decode cX9_advance 71 = .ok (.baload, 1) := dq_51 (by decide +kernel)
theorem dX9_advance_72 : decode cX9_advance 72 = .ok (.istore_n 2, 1) := dq_61 (by decide +kernel)
theorem dX9_advance_73 : decode cX9_advance 73 = .ok (.iload_n 2, 1) := dq_28 (by decide +kernel)
theorem dX9_advance_74 : decode cX9_advance 74 = .ok (.invokestatic 296, 3) := dq_184 (by decide +kernel)
theorem dX9_advance_77 : decode cX9_advance 77 = .ok (.ifCond .eq 103, 3) := dq_153 (by decide +kernel)
theorem dX9_advance_80 : decode cX9_advance 80 = .ok (.lconst 0, 1) := dq_9 (by decide +kernel)
theorem dX9_advance_81 : decode cX9_advance 81 = .ok (.lstore_n 3, 1) := dq_66 (by decide +kernel)
theorem dX9_advance_82 : decode cX9_advance 82 = .ok (.iconst 0, 1) := dq_3 (by decide +kernel)
theorem dX9_advance_83 : decode cX9_advance 83 = .ok (.istore 5, 2) := dq_54 (by decide +kernel)
theorem dX9_advance_85 : decode cX9_advance 85 = .ok (.aload_n 0, 1) := dq_42 (by decide +kernel)
theorem dX9_advance_86 : decode cX9_advance 86 = .ok (.getfield 287, 3) := dq_180 (by decide +kernel)
theorem dX9_advance_89 : decode cX9_advance 89 = .ok (.aload_n 0, 1) := dq_42 (by decide +kernel)
theorem dX9_advance_90 : decode cX9_advance 90 = .ok (.getfield 284, 3) := dq_180 (by decide +kernel)
theorem dX9_advance_93 : decode cX9_advance 93 = .ok (.if_icmp .ge 66, 3) := dq_162 (by decide +kernel)
theorem dX9_advance_96 : decode cX9_advance 96 = .ok (.aload_n 0, 1) := dq_42 (by decide +kernel)
theorem dX9_advance_97 : decode cX9_advance 97 = .ok (.getfield 66, 3) := dq_180 (by decide +kernel)
theorem dX9_advance_100 : decode cX9_advance 100 = .ok (.aload_n 0, 1) := dq_42 (by decide +kernel)
theorem dX9_advance_101 : decode cX9_advance 101 = .ok (.getfield 287, 3) := dq_180 (by decide +kernel)
theorem dX9_advance_104 : decode cX9_advance 104 = .ok (.baload, 1) := dq_51 (by decide +kernel)
theorem dX9_advance_105 : decode cX9_advance 105 = .ok (.invokestatic 296, 3) := dq_184 (by decide +kernel)
theorem dX9_advance_108 : decode cX9_advance 108 = .ok (.ifCond .eq 51, 3) := dq_153 (by decide +kernel)
theorem dX9_advance_111 : decode cX9_advance 111 = .ok (.iload 5, 2) := dq_21 (by decide +kernel)
theorem dX9_advance_113 : decode cX9_advance 113 = .ok (.bipush 7, 2) := dq_16 (by decide +kernel)
theorem dX9_advance_115 : decode cX9_advance 115 = .ok (.if_icmp .ge 26, 3) := dq_162 (by decide +kernel)
theorem dX9_advance_118 : decode cX9_advance 118 = .ok (.lload_n 3, 1) := dq_33 (by decide +kernel)
theorem dX9_advance_119 : decode cX9_advance 119 = .ok (.ldc2_w 299, 3) := dq_20 (by decide +kernel)
theorem dX9_advance_122 : decode cX9_advance 122 = .ok (.lmul, 1) := dq_105 (by decide +kernel)
theorem dX9_advance_123 : decode cX9_advance 123 = .ok (.aload_n 0, 1) := dq_42 (by decide +kernel)
theorem dX9_advance_124 : decode cX9_advance 124 = .ok (.getfield 66, 3) := dq_180 (by decide +kernel)
theorem dX9_advance_127 : decode cX9_advance 127 = .ok (.aload_n 0, 1) := dq_42 (by decide +kernel)
theorem dX9_advance_128 : decode cX9_advance 128 = .ok (.getfield 287, 3) := dq_180 (by decide +kernel)
theorem dX9_advance_131 : decode cX9_advance 131 = .ok (.baload, 1) := dq_51 (by decide +kernel)
theorem dX9_advance_132 : decode cX9_advance 132 = .ok (.i2l, 1) := dq_133 (by decide +kernel)
theorem dX9_advance_133 : decode cX9_advance 133 = .ok (.ladd, 1) := dq_97 (by decide +kernel)
theorem dX9_advance_134 : decode cX9_advance 134 = .ok (.ldc2_w 301, 3) := dq_20 (by decide +kernel)
theorem dX9_advance_137 : decode cX9_advance 137 = .ok (.lsub, 1) := dq_101 (by decide +kernel)
theorem dX9_advance_138 : decode cX9_advance 138 = .ok (.goto 4, 3) := dq_167 (by decide +kernel)
theorem dX9_advance_141 : decode cX9_advance 141 = .ok (.lload_n 3, 1) := dq_33 (by decide +kernel)
theorem dX9_advance_142 : decode cX9_advance 142 = .ok (.lstore_n 3, 1) := dq_66 (by decide +kernel)
theorem dX9_advance_143 : decode cX9_advance 143 = .ok (.aload_n 0, 1) := dq_42 (by decide +kernel)
theorem dX9_advance_144 : decode cX9_advance 144 = .ok (.dup, 1) := dq_89 (by decide +kernel)
theorem dX9_advance_145 : decode cX9_advance 145 = .ok (.getfield 287, 3) := dq_180 (by decide +kernel)
theorem dX9_advance_148 : decode cX9_advance 148 = .ok (.iconst 1, 1) := dq_4 (by decide +kernel)
theorem dX9_advance_149 : decode cX9_advance 149 = .ok (.iadd, 1) := dq_96 (by decide +kernel)
theorem dX9_advance_150 : decode cX9_advance 150 = .ok (.putfield 287, 3) := dq_181 (by decide +kernel)
theorem dX9_advance_153 : decode cX9_advance 153 = .ok (.iinc 5 1, 3) := dq_132 (by decide +kernel)
theorem dX9_advance_156 : decode cX9_advance 156 = .ok (.goto (-71), 3) := dq_167 (by decide +kernel)
theorem dX9_advance_159 : decode cX9_advance 159 = .ok (.aload_n 0, 1) := dq_42 (by decide +kernel)
theorem dX9_advance_160 : decode cX9_advance 160 = .ok (.iload 5, 2) := dq_21 (by decide +kernel)
theorem dX9_advance_162 : decode cX9_advance 162 = .ok (.bipush 6, 2) := dq_16 (by decide +kernel)
theorem dX9_advance_164 : decode cX9_advance 164 = .ok (.if_icmp .le 7, 3) := dq_164 (by decide +kernel)
theorem dX9_advance_167 : decode cX9_advance 167 = .ok (.iconst 2, 1) := dq_5 (by decide +kernel)
theorem dX9_advance_168 : decode cX9_advance 168 = .ok (.goto 8, 3) := dq_167 (by decide +kernel)
theorem dX9_advance_171 : decode cX9_advance 171 = .ok (.lload_n 3, 1) := dq_33 (by decide +kernel)
theorem dX9_advance_172 : decode cX9_advance 172 = .ok (.iload_n 1, 1) := dq_27 (by decide +kernel)
theorem dX9_advance_173 : decode cX9_advance 173 = .ok (.invokestatic 303, 3) := dq_184 (by decide +kernel)
theorem dX9_advance_176 : decode cX9_advance 176 = .ok (.putfield 293, 3) := dq_181 (by decide +kernel)
theorem dX9_advance_179 : decode cX9_advance 179 = .ok (.return_, 1) := dq_177 (by decide +kernel)
theorem dX9_advance_180 : decode cX9_advance 180 = .ok (.iload_n 2, 1) := dq_28 (by decide +kernel)
theorem dX9_advance_181 : decode cX9_advance 181 = .ok (.invokestatic 307, 3) := dq_184 (by decide +kernel)
theorem dX9_advance_184 : decode cX9_advance 184 = .ok (.ifCond .eq 103, 3) := dq_153 (by decide +kernel)
theorem dX9_advance_187 : decode cX9_advance 187 = .ok (.iconst 0, 1) := dq_3 (by decide +kernel)
theorem dX9_advance_188 : decode cX9_advance 188 = .ok (.istore_n 3, 1) := dq_62 (by decide +kernel)
theorem dX9_advance_189 : decode cX9_advance 189 = .ok (.aload_n 0, 1) := dq_42 (by decide +kernel)
theorem dX9_advance_190 : decode cX9_advance 190 = .ok (.iconst 0, 1) := dq_3 (by decide +kernel)
theorem dX9_advance_191 : decode cX9_advance 191 = .ok (.putfield 310, 3) := dq_181 (by decide +kernel)
theorem dX9_advance_194 : decode cX9_advance 194 = .ok (.aload_n 0, 1) := dq_42 (by decide +kernel)
theorem dX9_advance_195 : decode cX9_advance 195 = .ok (.getfield 287, 3) := dq_180 (by decide +kernel)
theorem dX9_advance_198 : decode cX9_advance 198 = .ok (.aload_n 0, 1) := dq_42 (by decide +kernel)
theorem dX9_advance_199 : decode cX9_advance 199 = .ok (.getfield 284, 3) := dq_180 (by decide +kernel)
theorem dX9_advance_202 : decode cX9_advance 202 = .ok (.if_icmp .ge 70, 3) := dq_162 (by decide +kernel)
theorem dX9_advance_205 : decode cX9_advance 205 = .ok (.aload_n 0, 1) := dq_42 (by decide +kernel)
theorem dX9_advance_206 : decode cX9_advance 206 = .ok (.getfield 66, 3) := dq_180 (by decide +kernel)
theorem dX9_advance_209 : decode cX9_advance 209 = .ok (.aload_n 0, 1) := dq_42 (by decide +kernel)
theorem dX9_advance_210 : decode cX9_advance 210 = .ok (.getfield 287, 3) := dq_180 (by decide +kernel)
theorem dX9_advance_213 : decode cX9_advance 213 = .ok (.baload, 1) := dq_51 (by decide +kernel)
theorem dX9_advance_214 : decode cX9_advance 214 = .ok (.invokestatic 307, 3) := dq_184 (by decide +kernel)
theorem dX9_advance_217 : decode cX9_advance 217 = .ok (.ifCond .eq 55, 3) := dq_153 (by decide +kernel)
theorem dX9_advance_220 : decode cX9_advance 220 = .ok (.aload_n 0, 1) := dq_42 (by decide +kernel)
theorem dX9_advance_221 : decode cX9_advance 221 = .ok (.iload_n 3, 1) := dq_29 (by decide +kernel)
theorem dX9_advance_222 : decode cX9_advance 222 = .ok (.iconst 5, 1) := dq_8 (by decide +kernel)
theorem dX9_advance_223 : decode cX9_advance 223 = .ok (.if_icmp .ge 26, 3) := dq_162 (by decide +kernel)
theorem dX9_advance_226 : decode cX9_advance 226 = .ok (.bipush 10, 2) := dq_16 (by decide +kernel)
theorem dX9_advance_228 : decode cX9_advance 228 = .ok (.aload_n 0, 1) := dq_42 (by decide +kernel)
theorem dX9_advance_229 : decode cX9_advance 229 = .ok (.getfield 310, 3) := dq_180 (by decide +kernel)
theorem dX9_advance_232 : decode cX9_advance 232 = .ok (.imul, 1) := dq_104 (by decide +kernel)
theorem dX9_advance_233 : decode cX9_advance 233 = .ok (.aload_n 0, 1) := dq_42 (by decide +kernel)
theorem dX9_advance_234 : decode cX9_advance 234 = .ok (.getfield 66, 3) := dq_180 (by decide +kernel)
theorem dX9_advance_237 : decode cX9_advance 237 = .ok (.aload_n 0, 1) := dq_42 (by decide +kernel)
theorem dX9_advance_238 : decode cX9_advance 238 = .ok (.getfield 287, 3) := dq_180 (by decide +kernel)
theorem dX9_advance_241 : decode cX9_advance 241 = .ok (.baload, 1) := dq_51 (by decide +kernel)
theorem dX9_advance_242 : decode cX9_advance 242 = .ok (.iadd, 1) := dq_96 (by decide +kernel)
theorem dX9_advance_243 : decode cX9_advance 243 = .ok (.bipush 48, 2) := dq_16 (by decide +kernel)
theorem dX9_advance_245 : decode cX9_advance 245 = .ok (.isub, 1) := dq_100 (by decide +kernel)
theorem dX9_advance_246 : decode cX9_advance 246 = .ok (.goto 7, 3) := dq_167 (by decide +kernel)
theorem dX9_advance_249 : decode cX9_advance 249 = .ok (.aload_n 0, 1) := dq_42 (by decide +kernel)
theorem dX9_advance_250 : decode cX9_advance 250 = .ok (.getfield 310, 3) := dq_180 (by decide +kernel)
theorem dX9_advance_253 : decode cX9_advance 253 = .ok (.putfield 310, 3) := dq_181 (by decide +kernel)
theorem dX9_advance_256 : decode cX9_advance 256 = .ok (.aload_n 0, 1) := dq_42 (by decide +kernel)
theorem dX9_advance_257 : decode cX9_advance 257 = .ok (.dup, 1) := dq_89 (by decide +kernel)
theorem dX9_advance_258 : decode cX9_advance 258 = .ok (.getfield 287, 3) := dq_180 (by decide +kernel)
theorem dX9_advance_261 : decode cX9_advance 261 = .ok (.iconst 1, 1) := dq_4 (by decide +kernel)
theorem dX9_advance_262 : decode cX9_advance 262 = .ok (.iadd, 1) := dq_96 (by decide +kernel)
theorem dX9_advance_263 : decode cX9_advance 263 = .ok (.putfield 287, 3) := dq_181 (by decide +kernel)
theorem dX9_advance_266 : decode cX9_advance 266 = .ok (.iinc 3 1, 3) := dq_132 (by decide +kernel)
theorem dX9_advance_269 : decode cX9_advance 269 = .ok (.goto (-75), 3) := dq_167 (by decide +kernel)
theorem dX9_advance_272 : decode cX9_advance 272 = .ok (.aload_n 0, 1) := dq_42 (by decide +kernel)
theorem dX9_advance_273 : decode cX9_advance 273 = .ok (.iload_n 3, 1) := dq_29 (by decide +kernel)
theorem dX9_advance_274 : decode cX9_advance 274 = .ok (.iconst 5, 1) := dq_8 (by decide +kernel)
theorem dX9_advance_275 : decode cX9_advance 275 = .ok (.if_icmp .le 7, 3) := dq_164 (by decide +kernel)
theorem dX9_advance_278 : decode cX9_advance 278 = .ok (.iconst 2, 1) := dq_5 (by decide +kernel)
theorem dX9_advance_279 : decode cX9_advance 279 = .ok (.goto 4, 3) := dq_167 (by decide +kernel)
theorem dX9_advance_282 : decode cX9_advance 282 = .ok (.iconst 1, 1) := dq_4 (by decide +kernel)
theorem dX9_advance_283 : decode cX9_advance 283 = .ok (.putfield 293, 3) := dq_181 (by decide +kernel)
theorem dX9_advance_286 : decode cX9_advance 286 = .ok (.return_, 1) := dq_177 (by decide +kernel)
theorem dX9_advance_287 : decode cX9_advance 287 = .ok (.aload_n 0, 1) := dq_42 (by decide +kernel)
theorem dX9_advance_288 : decode cX9_advance 288 = .ok (.dup, 1) := dq_89 (by decide +kernel)
theorem dX9_advance_289 : decode cX9_advance 289 = .ok (.getfield 287, 3) := dq_180 (by decide +kernel)
theorem dX9_advance_292 : decode cX9_advance 292 = .ok (.iconst 1, 1) := dq_4 (by decide +kernel)
theorem dX9_advance_293 : decode cX9_advance 293 = .ok (.iadd, 1) := dq_96 (by decide +kernel)
theorem dX9_advance_294 : decode cX9_advance 294 = .ok (.putfield 287, 3) := dq_181 (by decide +kernel)
theorem dX9_advance_297 : decode cX9_advance 297 = .ok (.aload_n 0, 1) := dq_42 (by decide +kernel)
theorem dX9_advance_298 : decode cX9_advance 298 = .ok (.iload_n 2, 1) := dq_28 (by decide +kernel)
theorem dX9_advance_299 : decode cX9_advance 299 = .ok (.invokestatic 313, 3) := dq_184 (by decide +kernel)
theorem dX9_advance_302 : decode cX9_advance 302 = .ok (.putfield 293, 3) := dq_181 (by decide +kernel)
theorem dX9_advance_305 : decode cX9_advance 305 = .ok (.return_, 1) := dq_177 (by decide +kernel)
theorem dX9_age_0 : decode cX9_age 0 = .ok (.iload_n 1, 1) := dq_27 (by decide +kernel)
theorem dX9_age_1 : decode cX9_age 1 = .ok (.invokestatic 152, 3) := dq_184 (by decide +kernel)
theorem dX9_age_4 : decode cX9_age 4 = .ok (.ifCond .eq 10, 3) := dq_153 (by decide +kernel)
theorem dX9_age_7 : decode cX9_age 7 = .ok (.iload_n 2, 1) := dq_28 (by decide +kernel)
theorem dX9_age_8 : decode cX9_age 8 = .ok (.invokestatic 159, 3) := dq_184 (by decide +kernel)
theorem dX9_age_11 : decode cX9_age 11 = .ok (.ifCond .ne 5, 3) := dq_154 (by decide +kernel)
theorem dX9_age_14 : decode cX9_age 14 = .ok (.iconst (-1), 1) := dq_2 (by decide +kernel)
theorem dX9_age_15 : decode cX9_age 15 = .ok (.ireturn, 1) := dq_172 (by decide +kernel)
theorem dX9_age_16 : decode cX9_age 16 = .ok (.aload_n 0, 1) := dq_42 (by decide +kernel)
theorem dX9_age_17 : decode cX9_age 17 = .ok (.iload_n 1, 1) := dq_27 (by decide +kernel)
theorem dX9_age_18 : decode cX9_age 18 = .ok (.invokevirtual 172, 3) := dq_182 (by decide +kernel)
theorem dX9_age_21 : decode cX9_age 21 = .ok (.istore_n 3, 1) := dq_62 (by decide +kernel)
theorem dX9_age_22 : decode cX9_age 22 = .ok (.iload_n 3, 1) := dq_29 (by decide +kernel)
theorem dX9_age_23 : decode cX9_age 23 = .ok (.ifCond .ge 7, 3) := dq_156 (by decide +kernel)
theorem dX9_age_26 : decode cX9_age 26 = .ok (.iload_n 3, 1) := dq_29 (by decide +kernel)
theorem dX9_age_27 : decode cX9_age 27 = .ok (.goto 9, 3) := dq_167 (by decide +kernel)
theorem dX9_age_30 : decode cX9_age 30 = .ok (.aload_n 0, 1) := dq_42 (by decide +kernel)
theorem dX9_age_31 : decode cX9_age 31 = .ok (.iload_n 1, 1) := dq_27 (by decide +kernel)
theorem dX9_age_32 : decode cX9_age 32 = .ok (.iload_n 2, 1) := dq_28 (by decide +kernel)
theorem dX9_age_33 : decode cX9_age 33 = .ok (.invokevirtual 191, 3) := dq_182 (by decide +kernel)
theorem dX9_age_36 : decode cX9_age 36 = .ok (.ireturn, 1) := dq_172 (by decide +kernel)
theorem dX9_ageOf_0 : decode cX9_ageOf 0 = .ok (.iload_n 2, 1) := dq_28 (by decide +kernel)
theorem dX9_ageOf_1 : decode cX9_ageOf 1 = .ok (.istore_n 3, 1) := dq_62 (by decide +kernel)
theorem dX9_ageOf_2 : decode cX9_ageOf 2 = .ok (.iload_n 3, 1) := dq_29 (by decide +kernel)
theorem dX9_ageOf_3 : decode cX9_ageOf 3 = .ok (.ifCond .lt 24, 3) := dq_155 (by decide +kernel)
theorem dX9_ageOf_6 : decode cX9_ageOf 6 = .ok (.aload_n 0, 1) := dq_42 (by decide +kernel)
theorem dX9_ageOf_7 : decode cX9_ageOf 7 = .ok (.getfield 33, 3) := dq_180 (by decide +kernel)
theorem dX9_ageOf_10 : decode cX9_ageOf 10 = .ok (.sipush 400, 3) := dq_17 (by decide +kernel)
theorem dX9_ageOf_13 : decode cX9_ageOf 13 = .ok (.iload_n 1, 1) := dq_27 (by decide +kernel)
theorem dX9_ageOf_14 : decode cX9_ageOf 14 = .ok (.imul, 1) := dq_104 (by decide +kernel)
theorem dX9_ageOf_15 : decode cX9_ageOf 15 = .ok (.iload_n 3, 1) := dq_29 (by decide +kernel)
theorem dX9_ageOf_16 : decode cX9_ageOf 16 = .ok (.iadd, 1) := dq_96 (by decide +kernel)
theorem dX9_ageOf_17 : decode cX9_ageOf 17 = .ok (.baload, 1) := dq_51 (by decide +kernel)
theorem dX9_ageOf_18 : decode cX9_ageOf 18 = .ok (.ifCond .ne 9, 3) := dq_154 (by decide +kernel)
theorem dX9_ageOf_21 : decode cX9_ageOf 21 = .ok (.iinc 3 (-1), 3) := dq_132 (by decide +kernel)
theorem dX9_ageOf_24 : decode cX9_ageOf 24 = .ok (.goto (-22), 3) := dq_167 (by decide +kernel)
theorem dX9_ageOf_27 : decode cX9_ageOf 27 = .ok (.iload_n 3, 1) := dq_29 (by decide +kernel)
theorem dX9_ageOf_28 : decode cX9_ageOf 28 = .ok (.ifCond .ge 7, 3) := dq_156 (by decide +kernel)
theorem dX9_ageOf_31 : decode cX9_ageOf 31 = .ok (.iload_n 2, 1) := dq_28 (by decide +kernel)
theorem dX9_ageOf_32 : decode cX9_ageOf 32 = .ok (.goto 6, 3) := dq_167 (by decide +kernel)
theorem dX9_ageOf_35 : decode cX9_ageOf 35 = .ok (.iload_n 2, 1) := dq_28 (by decide +kernel)
theorem dX9_ageOf_36 : decode cX9_ageOf 36 = .ok (.iload_n 3, 1) := dq_29 (by decide +kernel)
theorem dX9_ageOf_37 : decode cX9_ageOf 37 = .ok (.isub, 1) := dq_100 (by decide +kernel)
theorem dX9_ageOf_38 : decode cX9_ageOf 38 = .ok (.ireturn, 1) := dq_172 (by decide +kernel)
theorem dX9_areDays_0 : decode cX9_areDays 0 = .ok (.iload_n 0, 1) := dq_26 (by decide +kernel)
theorem dX9_areDays_1 : decode cX9_areDays 1 = .ok (.ifCond .lt 27, 3) := dq_155 (by decide +kernel)
theorem dX9_areDays_4 : decode cX9_areDays 4 = .ok (.iload_n 1, 1) := dq_27 (by decide +kernel)
theorem dX9_areDays_5 : decode cX9_areDays 5 = .ok (.sipush 399, 3) := dq_17 (by decide +kernel)
theorem dX9_areDays_8 : decode cX9_areDays 8 = .ok (.if_icmp .gt 20, 3) := dq_163 (by decide +kernel)
theorem dX9_areDays_11 : decode cX9_areDays 11 = .ok (.iload_n 1, 1) := dq_27 (by decide +kernel)
theorem dX9_areDays_12 : decode cX9_areDays 12 = .ok (.iload_n 0, 1) := dq_26 (by decide +kernel)
theorem dX9_areDays_13 : decode cX9_areDays 13 = .ok (.if_icmp .le 15, 3) := dq_164 (by decide +kernel)
theorem dX9_areDays_16 : decode cX9_areDays 16 = .ok (.iload_n 1, 1) := dq_27 (by decide +kernel)
theorem dX9_areDays_17 : decode cX9_areDays 17 = .ok (.iload_n 0, 1) := dq_26 (by decide +kernel)
theorem dX9_areDays_18 : decode cX9_areDays 18 = .ok (.isub, 1) := dq_100 (by decide +kernel)
theorem dX9_areDays_19 : decode cX9_areDays 19 = .ok (.bipush 60, 2) := dq_16 (by decide +kernel)
theorem dX9_areDays_21 : decode cX9_areDays 21 = .ok (.if_icmp .gt 7, 3) := dq_163 (by decide +kernel)
theorem dX9_areDays_24 : decode cX9_areDays 24 = .ok (.iconst 1, 1) := dq_4 (by decide +kernel)
theorem dX9_areDays_25 : decode cX9_areDays 25 = .ok (.goto 4, 3) := dq_167 (by decide +kernel)
theorem dX9_areDays_28 : decode cX9_areDays 28 = .ok (.iconst 0, 1) := dq_3 (by decide +kernel)
theorem dX9_areDays_29 : decode cX9_areDays 29 = .ok (.ireturn, 1) := dq_172 (by decide +kernel)
theorem dX9_asked_0 : decode cX9_asked 0 = .ok (.iload_n 1, 1) := dq_27 (by decide +kernel)
theorem dX9_asked_1 : decode cX9_asked 1 = .ok (.invokestatic 152, 3) := dq_184 (by decide +kernel)
theorem dX9_asked_4 : decode cX9_asked 4 = .ok (.ifCond .eq 11, 3) := dq_153 (by decide +kernel)
theorem dX9_asked_7 : decode cX9_asked 7 = .ok (.iload_n 2, 1) := dq_28 (by decide +kernel)
theorem dX9_asked_8 : decode cX9_asked 8 = .ok (.iload_n 3, 1) := dq_29 (by decide +kernel)
theorem dX9_asked_9 : decode cX9_asked 9 = .ok (.invokestatic 195, 3) := dq_184 (by decide +kernel)
theorem dX9_asked_12 : decode cX9_asked 12 = .ok (.ifCond .ne 7, 3) := dq_154 (by decide +kernel)
theorem dX9_asked_15 : decode cX9_asked 15 = .ok (.iconst (-1), 1) := dq_2 (by decide +kernel)
theorem dX9_asked_16 : decode cX9_asked 16 = .ok (.goto 8, 3) := dq_167 (by decide +kernel)
theorem dX9_asked_19 : decode cX9_asked 19 = .ok (.aload_n 0, 1) := dq_42 (by decide +kernel)
theorem dX9_asked_20 : decode cX9_asked 20 = .ok (.iload_n 1, 1) := dq_27 (by decide +kernel)
theorem dX9_asked_21 : decode cX9_asked 21 = .ok (.invokevirtual 172, 3) := dq_182 (by decide +kernel)
theorem dX9_asked_24 : decode cX9_asked 24 = .ok (.ireturn, 1) := dq_172 (by decide +kernel)
theorem dX9_away_0 : decode cX9_away 0 = .ok (.aload_n 0, 1) := dq_42 (by decide +kernel)
theorem dX9_away_1 : decode cX9_away 1 = .ok (.iload_n 1, 1) := dq_27 (by decide +kernel)
theorem dX9_away_2 : decode cX9_away 2 = .ok (.invokevirtual 172, 3) := dq_182 (by decide +kernel)
theorem dX9_away_5 : decode cX9_away 5 = .ok (.istore_n 2, 1) := dq_61 (by decide +kernel)
theorem dX9_away_6 : decode cX9_away 6 = .ok (.iload_n 2, 1) := dq_28 (by decide +kernel)
theorem dX9_away_7 : decode cX9_away 7 = .ok (.ifCond .ge 5, 3) := dq_156 (by decide +kernel)
theorem dX9_away_10 : decode cX9_away 10 = .ok (.iload_n 2, 1) := dq_28 (by decide +kernel)
theorem dX9_away_11 : decode cX9_away 11 = .ok (.ireturn, 1) := dq_172 (by decide +kernel)
theorem dX9_away_12 : decode cX9_away 12 = .ok (.iconst 0, 1) := dq_3 (by decide +kernel)
theorem dX9_away_13 : decode cX9_away 13 = .ok (.istore_n 3, 1) := dq_62 (by decide +kernel)
theorem dX9_away_14 : decode cX9_away 14 = .ok (.iconst 0, 1) := dq_3 (by decide +kernel)
theorem dX9_away_15 : decode cX9_away 15 = .ok (.istore 4, 2) := dq_54 (by decide +kernel)
theorem dX9_away_17 : decode cX9_away 17 = .ok (.iload 4, 2) := dq_21 (by decide +kernel)
theorem dX9_away_19 : decode cX9_away 19 = .ok (.aload_n 0, 1) := dq_42 (by decide +kernel)
theorem dX9_away_20 : decode cX9_away 20 = .ok (.getfield 156, 3) := dq_180 (by decide +kernel)
theorem dX9_away_23 : decode cX9_away 23 = .ok (.if_icmp .gt 34, 3) := dq_163 (by decide +kernel)
theorem dX9_away_26 : decode cX9_away 26 = .ok (.iload_n 3, 1) := dq_29 (by decide +kernel)
theorem dX9_away_27 : decode cX9_away 27 = .ok (.aload_n 0, 1) := dq_42 (by decide +kernel)
theorem dX9_away_28 : decode cX9_away 28 = .ok (.getfield 39, 3) := dq_180 (by decide +kernel)
theorem dX9_away_31 : decode cX9_away 31 = .ok (.sipush 400, 3) := dq_17 (by decide +kernel)
theorem dX9_away_34 : decode cX9_away 34 = .ok (.iload_n 1, 1) := dq_27 (by decide +kernel)
theorem dX9_away_35 : decode cX9_away 35 = .ok (.imul, 1) := dq_104 (by decide +kernel)
theorem dX9_away_36 : decode cX9_away 36 = .ok (.iload 4, 2) := dq_21 (by decide +kernel)
theorem dX9_away_38 : decode cX9_away 38 = .ok (.iadd, 1) := dq_96 (by decide +kernel)
theorem dX9_away_39 : decode cX9_away 39 = .ok (.iaload, 1) := dq_46 (by decide +kernel)
theorem dX9_away_40 : decode cX9_away 40 = .ok (.iconst (-1), 1) := dq_2 (by decide +kernel)
theorem dX9_away_41 : decode cX9_away 41 = .ok (.if_icmp .ne 7, 3) := dq_160 (by decide +kernel)
theorem dX9_away_44 : decode cX9_away 44 = .ok (.iconst 0, 1) := dq_3 (by decide +kernel)
theorem dX9_away_45 : decode cX9_away 45 = .ok (.goto 4, 3) := dq_167 (by decide +kernel)
theorem dX9_away_48 : decode cX9_away 48 = .ok (.iconst 1, 1) := dq_4 (by decide +kernel)
theorem dX9_away_49 : decode cX9_away 49 = .ok (.iadd, 1) := dq_96 (by decide +kernel)
theorem dX9_away_50 : decode cX9_away 50 = .ok (.istore_n 3, 1) := dq_62 (by decide +kernel)
theorem dX9_away_51 : decode cX9_away 51 = .ok (.iinc 4 1, 3) := dq_132 (by decide +kernel)
theorem dX9_away_54 : decode cX9_away 54 = .ok (.goto (-37), 3) := dq_167 (by decide +kernel)
theorem dX9_away_57 : decode cX9_away 57 = .ok (.iload_n 3, 1) := dq_29 (by decide +kernel)
theorem dX9_away_58 : decode cX9_away 58 = .ok (.ireturn, 1) := dq_172 (by decide +kernel)
theorem dX9_back_0 : decode cX9_back 0 = .ok (.iload_n 1, 1) := dq_27 (by decide +kernel)
theorem dX9_back_1 : decode cX9_back 1 = .ok (.invokestatic 386, 3) := dq_184 (by decide +kernel)
theorem dX9_back_4 : decode cX9_back 4 = .ok (.ifCond .eq 37, 3) := dq_153 (by decide +kernel)
theorem dX9_back_7 : decode cX9_back 7 = .ok (.iload_n 2, 1) := dq_28 (by decide +kernel)
theorem dX9_back_8 : decode cX9_back 8 = .ok (.ldc 170, 2) := dq_18 (by decide +kernel)
theorem dX9_back_10 : decode cX9_back 10 = .ok (.ldc 171, 2) := dq_18 (by decide +kernel)
theorem dX9_back_12 : decode cX9_back 12 = .ok (.invokestatic 148, 3) := dq_184 (by decide +kernel)
theorem dX9_back_15 : decode cX9_back 15 = .ok (.ifCond .eq 26, 3) := dq_153 (by decide +kernel)
theorem dX9_back_18 : decode cX9_back 18 = .ok (.iload_n 3, 1) := dq_29 (by decide +kernel)
theorem dX9_back_19 : decode cX9_back 19 = .ok (.ldc 170, 2) := dq_18 (by decide +kernel)
theorem dX9_back_21 : decode cX9_back 21 = .ok (.ldc 171, 2) := dq_18 (by decide +kernel)
theorem dX9_back_23 : decode cX9_back 23 = .ok (.invokestatic 148, 3) := dq_184 (by decide +kernel)
theorem dX9_back_26 : decode cX9_back 26 = .ok (.ifCond .eq 15, 3) := dq_153 (by decide +kernel)
theorem dX9_back_29 : decode cX9_back 29 = .ok (.iload 4, 2) := dq_21 (by decide +kernel)
theorem dX9_back_31 : decode cX9_back 31 = .ok (.ldc 170, 2) := dq_18 (by decide +kernel)
theorem dX9_back_33 : decode cX9_back 33 = .ok (.ldc 171, 2) := dq_18 (by decide +kernel)
theorem dX9_back_35 : decode cX9_back 35 = .ok (.invokestatic 148, 3) := dq_184 (by decide +kernel)
theorem dX9_back_38 : decode cX9_back 38 = .ok (.ifCond .ne 5, 3) := dq_154 (by decide +kernel)
theorem dX9_back_41 : decode cX9_back 41 = .ok (.iconst (-1), 1) := dq_2 (by decide +kernel)
theorem dX9_back_42 : decode cX9_back 42 = .ok (.ireturn, 1) := dq_172 (by decide +kernel)
theorem dX9_back_43 : decode cX9_back 43 = .ok (.aload_n 0, 1) := dq_42 (by decide +kernel)
theorem dX9_back_44 : decode cX9_back 44 = .ok (.getfield 91, 3) := dq_180 (by decide +kernel)
theorem dX9_back_47 : decode cX9_back 47 = .ok (.iload_n 1, 1) := dq_27 (by decide +kernel)
theorem dX9_back_48 : decode cX9_back 48 = .ok (.iaload, 1) := dq_46 (by decide +kernel)
theorem dX9_back_49 : decode cX9_back 49 = .ok (.iconst 1, 1) := dq_4 (by decide +kernel)
theorem dX9_back_50 : decode cX9_back 50 = .ok (.if_icmp .ne 16, 3) := dq_160 (by decide +kernel)
theorem dX9_back_53 : decode cX9_back 53 = .ok (.aload_n 0, 1) := dq_42 (by decide +kernel)
theorem dX9_back_54 : decode cX9_back 54 = .ok (.getfield 94, 3) := dq_180 (by decide +kernel)
theorem dX9_back_57 : decode cX9_back 57 = .ok (.iload_n 1, 1) := dq_27 (by decide +kernel)
theorem dX9_back_58 : decode cX9_back 58 = .ok (.iaload, 1) := dq_46 (by decide +kernel)
theorem dX9_back_59 : decode cX9_back 59 = .ok (.aload_n 0, 1) := dq_42 (by decide +kernel)
theorem dX9_back_60 : decode cX9_back 60 = .ok (.getfield 156, 3) := dq_180 (by decide +kernel)
theorem dX9_back_63 : decode cX9_back 63 = .ok (.if_icmp .ne 6, 3) := dq_160 (by decide +kernel)
theorem dX9_back_66 : decode cX9_back 66 = .ok (.bipush (-4), 2) := dq_16 (by decide +kernel)
theorem dX9_back_68 : decode cX9_back 68 = .ok (.ireturn, 1) := dq_172 (by decide +kernel)
theorem dX9_back_69 : decode cX9_back 69 = .ok (.aload_n 0, 1) := dq_42 (by decide +kernel)
theorem dX9_back_70 : decode cX9_back 70 = .ok (.getfield 124, 3) := dq_180 (by decide +kernel)
theorem dX9_back_73 : decode cX9_back 73 = .ok (.iconst 0, 1) := dq_3 (by decide +kernel)
theorem dX9_back_74 : decode cX9_back 74 = .ok (.iload_n 2, 1) := dq_28 (by decide +kernel)
theorem dX9_back_75 : decode cX9_back 75 = .ok (.iastore, 1) := dq_79 (by decide +kernel)
theorem dX9_back_76 : decode cX9_back 76 = .ok (.aload_n 0, 1) := dq_42 (by decide +kernel)
theorem dX9_back_77 : decode cX9_back 77 = .ok (.getfield 124, 3) := dq_180 (by decide +kernel)
theorem dX9_back_80 : decode cX9_back 80 = .ok (.iconst 1, 1) := dq_4 (by decide +kernel)
theorem dX9_back_81 : decode cX9_back 81 = .ok (.iload_n 3, 1) := dq_29 (by decide +kernel)
theorem dX9_back_82 : decode cX9_back 82 = .ok (.iastore, 1) := dq_79 (by decide +kernel)
theorem dX9_back_83 : decode cX9_back 83 = .ok (.aload_n 0, 1) := dq_42 (by decide +kernel)
theorem dX9_back_84 : decode cX9_back 84 = .ok (.getfield 124, 3) := dq_180 (by decide +kernel)
theorem dX9_back_87 : decode cX9_back 87 = .ok (.iconst 2, 1) := dq_5 (by decide +kernel)
theorem dX9_back_88 : decode cX9_back 88 = .ok (.iload 4, 2) := dq_21 (by decide +kernel)
theorem dX9_back_90 : decode cX9_back 90 = .ok (.iastore, 1) := dq_79 (by decide +kernel)
theorem dX9_back_91 : decode cX9_back 91 = .ok (.iconst 0, 1) := dq_3 (by decide +kernel)
theorem dX9_back_92 : decode cX9_back 92 = .ok (.istore 5, 2) := dq_54 (by decide +kernel)
theorem dX9_back_94 : decode cX9_back 94 = .ok (.iload 5, 2) := dq_21 (by decide +kernel)
theorem dX9_back_96 : decode cX9_back 96 = .ok (.iconst 3, 1) := dq_6 (by decide +kernel)
theorem dX9_back_97 : decode cX9_back 97 = .ok (.if_icmp .ge 91, 3) := dq_162 (by decide +kernel)
theorem dX9_back_100 : decode cX9_back 100 = .ok (.iconst 3, 1) := dq_6 (by decide +kernel)
theorem dX9_back_101 : decode cX9_back 101 = .ok (.iload_n 1, 1) := dq_27 (by decide +kernel)
theorem dX9_back_102 : decode cX9_back 102 = .ok (.imul, 1) := dq_104 (by decide +kernel)
theorem dX9_back_103 : decode cX9_back 103 = .ok (.iload 5, 2) := dq_21 (by decide +kernel)
theorem dX9_back_105 : decode cX9_back 105 = .ok (.iadd, 1) := dq_96 (by decide +kernel)
theorem dX9_back_106 : decode cX9_back 106 = .ok (.istore 6, 2) := dq_54 (by decide +kernel)
theorem dX9_back_108 : decode cX9_back 108 = .ok (.sipush 400, 3) := dq_17 (by decide +kernel)
theorem dX9_back_111 : decode cX9_back 111 = .ok (.aload_n 0, 1) := dq_42 (by decide +kernel)
theorem dX9_back_112 : decode cX9_back 112 = .ok (.getfield 100, 3) := dq_180 (by decide +kernel)
theorem dX9_back_115 : decode cX9_back 115 = .ok (.iload 6, 2) := dq_21 (by decide +kernel)
theorem dX9_back_117 : decode cX9_back 117 = .ok (.iaload, 1) := dq_46 (by decide +kernel)
theorem dX9_back_118 : decode cX9_back 118 = .ok (.imul, 1) := dq_104 (by decide +kernel)
theorem dX9_back_119 : decode cX9_back 119 = .ok (.aload_n 0, 1) := dq_42 (by decide +kernel)
theorem dX9_back_120 : decode cX9_back 120 = .ok (.getfield 156, 3) := dq_180 (by decide +kernel)
theorem dX9_back_123 : decode cX9_back 123 = .ok (.iadd, 1) := dq_96 (by decide +kernel)
theorem dX9_back_124 : decode cX9_back 124 = .ok (.istore 7, 2) := dq_54 (by decide +kernel)
theorem dX9_back_126 : decode cX9_back 126 = .ok (.aload_n 0, 1) := dq_42 (by decide +kernel)
theorem dX9_back_127 : decode cX9_back 127 = .ok (.getfield 112, 3) := dq_180 (by decide +kernel)
theorem dX9_back_130 : decode cX9_back 130 = .ok (.iload 6, 2) := dq_21 (by decide +kernel)
theorem dX9_back_132 : decode cX9_back 132 = .ok (.aload_n 0, 1) := dq_42 (by decide +kernel)
theorem dX9_back_133 : decode cX9_back 133 = .ok (.getfield 124, 3) := dq_180 (by decide +kernel)
theorem dX9_back_136 : decode cX9_back 136 = .ok (.iload 5, 2) := dq_21 (by decide +kernel)
theorem dX9_back_138 : decode cX9_back 138 = .ok (.iaload, 1) := dq_46 (by decide +kernel)
theorem dX9_back_139 : decode cX9_back 139 = .ok (.iastore, 1) := dq_79 (by decide +kernel)
theorem dX9_back_140 : decode cX9_back 140 = .ok (.aload_n 0, 1) := dq_42 (by decide +kernel)
theorem dX9_back_141 : decode cX9_back 141 = .ok (.getfield 23, 3) := dq_180 (by decide +kernel)
theorem dX9_back_144 : decode cX9_back 144 = .ok (.iload 7, 2) := dq_21 (by decide +kernel)
theorem dX9_back_146 : decode cX9_back 146 = .ok (.iconst 1, 1) := dq_4 (by decide +kernel)
theorem dX9_back_147 : decode cX9_back 147 = .ok (.bastore, 1) := dq_84 (by decide +kernel)
theorem dX9_back_148 : decode cX9_back 148 = .ok (.aload_n 0, 1) := dq_42 (by decide +kernel)
theorem dX9_back_149 : decode cX9_back 149 = .ok (.getfield 27, 3) := dq_180 (by decide +kernel)
theorem dX9_back_152 : decode cX9_back 152 = .ok (.iload 7, 2) := dq_21 (by decide +kernel)
theorem dX9_back_154 : decode cX9_back 154 = .ok (.aload_n 0, 1) := dq_42 (by decide +kernel)
theorem dX9_back_155 : decode cX9_back 155 = .ok (.getfield 124, 3) := dq_180 (by decide +kernel)
theorem dX9_back_158 : decode cX9_back 158 = .ok (.iload 5, 2) := dq_21 (by decide +kernel)
theorem dX9_back_160 : decode cX9_back 160 = .ok (.iaload, 1) := dq_46 (by decide +kernel)
theorem dX9_back_161 : decode cX9_back 161 = .ok (.iastore, 1) := dq_79 (by decide +kernel)
theorem dX9_back_162 : decode cX9_back 162 = .ok (.aload_n 0, 1) := dq_42 (by decide +kernel)
theorem dX9_back_163 : decode cX9_back 163 = .ok (.getfield 30, 3) := dq_180 (by decide +kernel)
theorem dX9_back_166 : decode cX9_back 166 = .ok (.iload 7, 2) := dq_21 (by decide +kernel)
theorem dX9_back_168 : decode cX9_back 168 = .ok (.iconst 0, 1) := dq_3 (by decide +kernel)
theorem dX9_back_169 : decode cX9_back 169 = .ok (.iastore, 1) := dq_79 (by decide +kernel)
theorem dX9_back_170 : decode cX9_back 170 = .ok (.aload_n 0, 1) := dq_42 (by decide +kernel)
theorem dX9_back_171 : decode cX9_back 171 = .ok (.aload_n 0, 1) := dq_42 (by decide +kernel)
theorem dX9_back_172 : decode cX9_back 172 = .ok (.getfield 100, 3) := dq_180 (by decide +kernel)
theorem dX9_back_175 : decode cX9_back 175 = .ok (.iload 6, 2) := dq_21 (by decide +kernel)
theorem dX9_back_177 : decode cX9_back 177 = .ok (.iaload, 1) := dq_46 (by decide +kernel)
theorem dX9_back_178 : decode cX9_back 178 = .ok (.iconst (-1), 1) := dq_2 (by decide +kernel)
theorem dX9_back_179 : decode cX9_back 179 = .ok (.invokevirtual 392, 3) := dq_182 (by decide +kernel)
theorem dX9_back_182 : decode cX9_back 182 = .ok (.iinc 5 1, 3) := dq_132 (by decide +kernel)
theorem dX9_back_185 : decode cX9_back 185 = .ok (.goto (-91), 3) := dq_167 (by decide +kernel)
theorem dX9_back_188 : decode cX9_back 188 = .ok (.aload_n 0, 1) := dq_42 (by decide +kernel)
theorem dX9_back_189 : decode cX9_back 189 = .ok (.getfield 97, 3) := dq_180 (by decide +kernel)
theorem dX9_back_192 : decode cX9_back 192 = .ok (.iload_n 1, 1) := dq_27 (by decide +kernel)
theorem dX9_back_193 : decode cX9_back 193 = .ok (.aload_n 0, 1) := dq_42 (by decide +kernel)
theorem dX9_back_194 : decode cX9_back 194 = .ok (.getfield 156, 3) := dq_180 (by decide +kernel)
theorem dX9_back_197 : decode cX9_back 197 = .ok (.aload_n 0, 1) := dq_42 (by decide +kernel)
theorem dX9_back_198 : decode cX9_back 198 = .ok (.getfield 94, 3) := dq_180 (by decide +kernel)
theorem dX9_back_201 : decode cX9_back 201 = .ok (.iload_n 1, 1) := dq_27 (by decide +kernel)
theorem dX9_back_202 : decode cX9_back 202 = .ok (.iaload, 1) := dq_46 (by decide +kernel)
theorem dX9_back_203 : decode cX9_back 203 = .ok (.isub, 1) := dq_100 (by decide +kernel)
theorem dX9_back_204 : decode cX9_back 204 = .ok (.iastore, 1) := dq_79 (by decide +kernel)
theorem dX9_back_205 : decode cX9_back 205 = .ok (.aload_n 0, 1) := dq_42 (by decide +kernel)
theorem dX9_back_206 : decode cX9_back 206 = .ok (.getfield 91, 3) := dq_180 (by decide +kernel)
theorem dX9_back_209 : decode cX9_back 209 = .ok (.iload_n 1, 1) := dq_27 (by decide +kernel)
theorem dX9_back_210 : decode cX9_back 210 = .ok (.iconst 2, 1) := dq_5 (by decide +kernel)
theorem dX9_back_211 : decode cX9_back 211 = .ok (.iastore, 1) := dq_79 (by decide +kernel)
theorem dX9_back_212 : decode cX9_back 212 = .ok (.aload_n 0, 1) := dq_42 (by decide +kernel)
theorem dX9_back_213 : decode cX9_back 213 = .ok (.getfield 97, 3) := dq_180 (by decide +kernel)
theorem dX9_back_216 : decode cX9_back 216 = .ok (.iload_n 1, 1) := dq_27 (by decide +kernel)
theorem dX9_back_217 : decode cX9_back 217 = .ok (.iaload, 1) := dq_46 (by decide +kernel)
theorem dX9_back_218 : decode cX9_back 218 = .ok (.ireturn, 1) := dq_172 (by decide +kernel)
theorem dX9_both_0 : decode cX9_both 0 = .ok (.iload_n 0, 1) := dq_26 (by decide +kernel)
theorem dX9_both_1 : decode cX9_both 1 = .ok (.lookupswitch 148 #[(10, 75), (20, 89), (40, 103), (41, 114), (42, 125), (50, 136), (51, 140), (60, 144)], 75) := by decide +kernel
theorem dX9_both_76 : decode cX9_both 76 = .ok (.iload_n 1, 1) := dq_27 (by decide +kernel)
theorem dX9_both_77 : decode cX9_both 77 = .ok (.ifCond .ne 7, 3) := dq_154 (by decide +kernel)
theorem dX9_both_80 : decode cX9_both 80 = .ok (.iload_n 2, 1) := dq_28 (by decide +kernel)
theorem dX9_both_81 : decode cX9_both 81 = .ok (.ifCond .eq 7, 3) := dq_153 (by decide +kernel)
theorem dX9_both_84 : decode cX9_both 84 = .ok (.iconst 1, 1) := dq_4 (by decide +kernel)
theorem dX9_both_85 : decode cX9_both 85 = .ok (.goto 4, 3) := dq_167 (by decide +kernel)
theorem dX9_both_88 : decode cX9_both 88 = .ok (.iconst 0, 1) := dq_3 (by decide +kernel)
theorem dX9_both_89 : decode cX9_both 89 = .ok (.ireturn, 1) := dq_172 (by decide +kernel)
theorem dX9_both_90 : decode cX9_both 90 = .ok (.iload_n 1, 1) := dq_27 (by decide +kernel)
theorem dX9_both_91 : decode cX9_both 91 = .ok (.ifCond .eq 11, 3) := dq_153 (by decide +kernel)
theorem dX9_both_94 : decode cX9_both 94 = .ok (.iload_n 2, 1) := dq_28 (by decide +kernel)
theorem dX9_both_95 : decode cX9_both 95 = .ok (.ifCond .eq 7, 3) := dq_153 (by decide +kernel)
theorem dX9_both_98 : decode cX9_both 98 = .ok (.iconst 1, 1) := dq_4 (by decide +kernel)
theorem dX9_both_99 : decode cX9_both 99 = .ok (.goto 4, 3) := dq_167 (by decide +kernel)
theorem dX9_both_102 : decode cX9_both 102 = .ok (.iconst 0, 1) := dq_3 (by decide +kernel)
theorem dX9_both_103 : decode cX9_both 103 = .ok (.ireturn, 1) := dq_172 (by decide +kernel)
theorem dX9_both_104 : decode cX9_both 104 = .ok (.iload_n 1, 1) := dq_27 (by decide +kernel)
theorem dX9_both_105 : decode cX9_both 105 = .ok (.iload_n 2, 1) := dq_28 (by decide +kernel)
theorem dX9_both_106 : decode cX9_both 106 = .ok (.if_icmp .ge 7, 3) := dq_162 (by decide +kernel)
theorem dX9_both_109 : decode cX9_both 109 = .ok (.iconst 1, 1) := dq_4 (by decide +kernel)
theorem dX9_both_110 : decode cX9_both 110 = .ok (.goto 4, 3) := dq_167 (by decide +kernel)
theorem dX9_both_113 : decode cX9_both 113 = .ok (.iconst 0, 1) := dq_3 (by decide +kernel)
theorem dX9_both_114 : decode cX9_both 114 = .ok (.ireturn, 1) := dq_172 (by decide +kernel)
theorem dX9_both_115 : decode cX9_both 115 = .ok (.iload_n 1, 1) := dq_27 (by decide +kernel)
theorem dX9_both_116 : decode cX9_both 116 = .ok (.iload_n 2, 1) := dq_28 (by decide +kernel)
theorem dX9_both_117 : decode cX9_both 117 = .ok (.if_icmp .ne 7, 3) := dq_160 (by decide +kernel)
theorem dX9_both_120 : decode cX9_both 120 = .ok (.iconst 1, 1) := dq_4 (by decide +kernel)
theorem dX9_both_121 : decode cX9_both 121 = .ok (.goto 4, 3) := dq_167 (by decide +kernel)
theorem dX9_both_124 : decode cX9_both 124 = .ok (.iconst 0, 1) := dq_3 (by decide +kernel)
theorem dX9_both_125 : decode cX9_both 125 = .ok (.ireturn, 1) := dq_172 (by decide +kernel)
theorem dX9_both_126 : decode cX9_both 126 = .ok (.iload_n 1, 1) := dq_27 (by decide +kernel)
theorem dX9_both_127 : decode cX9_both 127 = .ok (.iload_n 2, 1) := dq_28 (by decide +kernel)
theorem dX9_both_128 : decode cX9_both 128 = .ok (.if_icmp .le 7, 3) := dq_164 (by decide +kernel)
theorem dX9_both_131 : decode cX9_both 131 = .ok (.iconst 1, 1) := dq_4 (by decide +kernel)
theorem dX9_both_132 : decode cX9_both 132 = .ok (.goto 4, 3) := dq_167 (by decide +kernel)
theorem dX9_both_135 : decode cX9_both 135 = .ok (.iconst 0, 1) := dq_3 (by decide +kernel)
theorem dX9_both_136 : decode cX9_both 136 = .ok (.ireturn, 1) := dq_172 (by decide +kernel)
theorem dX9_both_137 : decode cX9_both 137 = .ok (.iload_n 1, 1) := dq_27 (by decide +kernel)
theorem dX9_both_138 : decode cX9_both 138 = .ok (.iload_n 2, 1) := dq_28 (by decide +kernel)
theorem dX9_both_139 : decode cX9_both 139 = .ok (.iadd, 1) := dq_96 (by decide +kernel)
theorem dX9_both_140 : decode cX9_both 140 = .ok (.ireturn, 1) := dq_172 (by decide +kernel)
theorem dX9_both_141 : decode cX9_both 141 = .ok (.iload_n 1, 1) := dq_27 (by decide +kernel)
theorem dX9_both_142 : decode cX9_both 142 = .ok (.iload_n 2, 1) := dq_28 (by decide +kernel)
theorem dX9_both_143 : decode cX9_both 143 = .ok (.isub, 1) := dq_100 (by decide +kernel)
theorem dX9_both_144 : decode cX9_both 144 = .ok (.ireturn, 1) := dq_172 (by decide +kernel)
theorem dX9_both_145 : decode cX9_both 145 = .ok (.iload_n 1, 1) := dq_27 (by decide +kernel)
theorem dX9_both_146 : decode cX9_both 146 = .ok (.iload_n 2, 1) := dq_28 (by decide +kernel)
theorem dX9_both_147 : decode cX9_both 147 = .ok (.imul, 1) := dq_104 (by decide +kernel)
theorem dX9_both_148 : decode cX9_both 148 = .ok (.ireturn, 1) := dq_172 (by decide +kernel)
theorem dX9_both_149 : decode cX9_both 149 = .ok (.iload_n 2, 1) := dq_28 (by decide +kernel)
theorem dX9_both_150 : decode cX9_both 150 = .ok (.ifCond .ne 7, 3) := dq_154 (by decide +kernel)
theorem dX9_both_153 : decode cX9_both 153 = .ok (.iconst 0, 1) := dq_3 (by decide +kernel)
theorem dX9_both_154 : decode cX9_both 154 = .ok (.goto 16, 3) := dq_167 (by decide +kernel)
theorem dX9_both_157 : decode cX9_both 157 = .ok (.iload_n 2, 1) := dq_28 (by decide +kernel)
theorem dX9_both_158 : decode cX9_both 158 = .ok (.iconst (-1), 1) := dq_2 (by decide +kernel)
theorem dX9_both_159 : decode cX9_both 159 = .ok (.if_icmp .ne 8, 3) := dq_160 (by decide +kernel)
theorem dX9_both_162 : decode cX9_both 162 = .ok (.iload_n 1, 1) := dq_27 (by decide +kernel)
theorem dX9_both_163 : decode cX9_both 163 = .ok (.ineg, 1) := dq_116 (by decide +kernel)
theorem dX9_both_164 : decode cX9_both 164 = .ok (.goto 6, 3) := dq_167 (by decide +kernel)
theorem dX9_both_167 : decode cX9_both 167 = .ok (.iload_n 1, 1) := dq_27 (by decide +kernel)
theorem dX9_both_168 : decode cX9_both 168 = .ok (.iload_n 2, 1) := dq_28 (by decide +kernel)
theorem dX9_both_169 : decode cX9_both 169 = .ok (.idiv, 1) := dq_108 (by decide +kernel)
theorem dX9_both_170 : decode cX9_both 170 = .ok (.ireturn, 1) := dq_172 (by decide +kernel)
theorem dX9_byThree_0 : decode cX9_byThree 0 = .ok (.aload_n 0, 1) := dq_42 (by decide +kernel)
theorem dX9_byThree_1 : decode cX9_byThree 1 = .ok (.aload_n 0, 1) := dq_42 (by decide +kernel)
theorem dX9_byThree_2 : decode cX9_byThree 2 = .ok (.invokevirtual 234, 3) := dq_182 (by decide +kernel)
theorem dX9_byThree_5 : decode cX9_byThree 5 = .ok (.putfield 253, 3) := dq_181 (by decide +kernel)
theorem dX9_byThree_8 : decode cX9_byThree 8 = .ok (.aload_n 0, 1) := dq_42 (by decide +kernel)
theorem dX9_byThree_9 : decode cX9_byThree 9 = .ok (.getfield 209, 3) := dq_180 (by decide +kernel)
theorem dX9_byThree_12 : decode cX9_byThree 12 = .ok (.aload_n 0, 1) := dq_42 (by decide +kernel)
theorem dX9_byThree_13 : decode cX9_byThree 13 = .ok (.getfield 212, 3) := dq_180 (by decide +kernel)
theorem dX9_byThree_16 : decode cX9_byThree 16 = .ok (.aload_n 0, 1) := dq_42 (by decide +kernel)
theorem dX9_byThree_17 : decode cX9_byThree 17 = .ok (.getfield 218, 3) := dq_180 (by decide +kernel)
theorem dX9_byThree_20 : decode cX9_byThree 20 = .ok (.lmul, 1) := dq_105 (by decide +kernel)
theorem dX9_byThree_21 : decode cX9_byThree 21 = .ok (.aload_n 0, 1) := dq_42 (by decide +kernel)
theorem dX9_byThree_22 : decode cX9_byThree 22 = .ok (.getfield 215, 3) := dq_180 (by decide +kernel)
theorem dX9_byThree_25 : decode cX9_byThree 25 = .ok (.aload_n 0, 1) := dq_42 (by decide +kernel)
theorem dX9_byThree_26 : decode cX9_byThree 26 = .ok (.getfield 215, 3) := dq_180 (by decide +kernel)
theorem dX9_byThree_29 : decode cX9_byThree 29 = .ok (.lmul, 1) := dq_105 (by decide +kernel)
theorem dX9_byThree_30 : decode cX9_byThree 30 = .ok (.lsub, 1) := dq_101 (by decide +kernel)
theorem dX9_byThree_31 : decode cX9_byThree 31 = .ok (.lmul, 1) := dq_105 (by decide +kernel)
theorem dX9_byThree_32 : decode cX9_byThree 32 = .ok (.aload_n 0, 1) := dq_42 (by decide +kernel)
theorem dX9_byThree_33 : decode cX9_byThree 33 = .ok (.getfield 203, 3) := dq_180 (by decide +kernel)
theorem dX9_byThree_36 : decode cX9_byThree 36 = .ok (.aload_n 0, 1) := dq_42 (by decide +kernel)
theorem dX9_byThree_37 : decode cX9_byThree 37 = .ok (.getfield 221, 3) := dq_180 (by decide +kernel)
theorem dX9_byThree_40 : decode cX9_byThree 40 = .ok (.aload_n 0, 1) := dq_42 (by decide +kernel)
theorem dX9_byThree_41 : decode cX9_byThree 41 = .ok (.getfield 218, 3) := dq_180 (by decide +kernel)
theorem dX9_byThree_44 : decode cX9_byThree 44 = .ok (.lmul, 1) := dq_105 (by decide +kernel)
theorem dX9_byThree_45 : decode cX9_byThree 45 = .ok (.aload_n 0, 1) := dq_42 (by decide +kernel)
theorem dX9_byThree_46 : decode cX9_byThree 46 = .ok (.getfield 215, 3) := dq_180 (by decide +kernel)
theorem dX9_byThree_49 : decode cX9_byThree 49 = .ok (.aload_n 0, 1) := dq_42 (by decide +kernel)
theorem dX9_byThree_50 : decode cX9_byThree 50 = .ok (.getfield 224, 3) := dq_180 (by decide +kernel)
theorem dX9_byThree_53 : decode cX9_byThree 53 = .ok (.lmul, 1) := dq_105 (by decide +kernel)
theorem dX9_byThree_54 : decode cX9_byThree 54 = .ok (.lsub, 1) := dq_101 (by decide +kernel)
theorem dX9_byThree_55 : decode cX9_byThree 55 = .ok (.lmul, 1) := dq_105 (by decide +kernel)
theorem dX9_byThree_56 : decode cX9_byThree 56 = .ok (.lsub, 1) := dq_101 (by decide +kernel)
theorem dX9_byThree_57 : decode cX9_byThree 57 = .ok (.aload_n 0, 1) := dq_42 (by decide +kernel)
theorem dX9_byThree_58 : decode cX9_byThree 58 = .ok (.getfield 206, 3) := dq_180 (by decide +kernel)
theorem dX9_byThree_61 : decode cX9_byThree 61 = .ok (.aload_n 0, 1) := dq_42 (by decide +kernel)
theorem dX9_byThree_62 : decode cX9_byThree 62 = .ok (.getfield 221, 3) := dq_180 (by decide +kernel)
theorem dX9_byThree_65 : decode cX9_byThree 65 = .ok (.aload_n 0, 1) := dq_42 (by decide +kernel)
theorem dX9_byThree_66 : decode cX9_byThree 66 = .ok (.getfield 215, 3) := dq_180 (by decide +kernel)
theorem dX9_byThree_69 : decode cX9_byThree 69 = .ok (.lmul, 1) := dq_105 (by decide +kernel)
theorem dX9_byThree_70 : decode cX9_byThree 70 = .ok (.aload_n 0, 1) := dq_42 (by decide +kernel)
theorem dX9_byThree_71 : decode cX9_byThree 71 = .ok (.getfield 212, 3) := dq_180 (by decide +kernel)
theorem dX9_byThree_74 : decode cX9_byThree 74 = .ok (.aload_n 0, 1) := dq_42 (by decide +kernel)
theorem dX9_byThree_75 : decode cX9_byThree 75 = .ok (.getfield 224, 3) := dq_180 (by decide +kernel)
theorem dX9_byThree_78 : decode cX9_byThree 78 = .ok (.lmul, 1) := dq_105 (by decide +kernel)
theorem dX9_byThree_79 : decode cX9_byThree 79 = .ok (.lsub, 1) := dq_101 (by decide +kernel)
theorem dX9_byThree_80 : decode cX9_byThree 80 = .ok (.lmul, 1) := dq_105 (by decide +kernel)
theorem dX9_byThree_81 : decode cX9_byThree 81 = .ok (.ladd, 1) := dq_97 (by decide +kernel)
theorem dX9_byThree_82 : decode cX9_byThree 82 = .ok (.lstore 5, 2) := dq_55 (by decide +kernel)
theorem dX9_byThree_84 : decode cX9_byThree 84 = .ok (.aload_n 0, 1) := dq_42 (by decide +kernel)
theorem dX9_byThree_85 : decode cX9_byThree 85 = .ok (.getfield 199, 3) := dq_180 (by decide +kernel)
theorem dX9_byThree_88 : decode cX9_byThree 88 = .ok (.aload_n 0, 1) := dq_42 (by decide +kernel)
theorem dX9_byThree_89 : decode cX9_byThree 89 = .ok (.getfield 221, 3) := dq_180 (by decide +kernel)
theorem dX9_byThree_92 : decode cX9_byThree 92 = .ok (.aload_n 0, 1) := dq_42 (by decide +kernel)
theorem dX9_byThree_93 : decode cX9_byThree 93 = .ok (.getfield 218, 3) := dq_180 (by decide +kernel)
theorem dX9_byThree_96 : decode cX9_byThree 96 = .ok (.lmul, 1) := dq_105 (by decide +kernel)
theorem dX9_byThree_97 : decode cX9_byThree 97 = .ok (.aload_n 0, 1) := dq_42 (by decide +kernel)
theorem dX9_byThree_98 : decode cX9_byThree 98 = .ok (.getfield 215, 3) := dq_180 (by decide +kernel)
theorem dX9_byThree_101 : decode cX9_byThree 101 = .ok (.aload_n 0, 1) := dq_42 (by decide +kernel)
theorem dX9_byThree_102 : decode cX9_byThree 102 = .ok (.getfield 224, 3) := dq_180 (by decide +kernel)
theorem dX9_byThree_105 : decode cX9_byThree 105 = .ok (.lmul, 1) := dq_105 (by decide +kernel)
theorem dX9_byThree_106 : decode cX9_byThree 106 = .ok (.lsub, 1) := dq_101 (by decide +kernel)
theorem dX9_byThree_107 : decode cX9_byThree 107 = .ok (.lmul, 1) := dq_105 (by decide +kernel)
theorem dX9_byThree_108 : decode cX9_byThree 108 = .ok (.aload_n 0, 1) := dq_42 (by decide +kernel)
theorem dX9_byThree_109 : decode cX9_byThree 109 = .ok (.getfield 209, 3) := dq_180 (by decide +kernel)
theorem dX9_byThree_112 : decode cX9_byThree 112 = .ok (.aload_n 0, 1) := dq_42 (by decide +kernel)
theorem dX9_byThree_113 : decode cX9_byThree 113 = .ok (.getfield 203, 3) := dq_180 (by decide +kernel)
theorem dX9_byThree_116 : decode cX9_byThree 116 = .ok (.aload_n 0, 1) := dq_42 (by decide +kernel)
theorem dX9_byThree_117 : decode cX9_byThree 117 = .ok (.getfield 218, 3) := dq_180 (by decide +kernel)
theorem dX9_byThree_120 : decode cX9_byThree 120 = .ok (.lmul, 1) := dq_105 (by decide +kernel)
theorem dX9_byThree_121 : decode cX9_byThree 121 = .ok (.aload_n 0, 1) := dq_42 (by decide +kernel)
theorem dX9_byThree_122 : decode cX9_byThree 122 = .ok (.getfield 215, 3) := dq_180 (by decide +kernel)
theorem dX9_byThree_125 : decode cX9_byThree 125 = .ok (.aload_n 0, 1) := dq_42 (by decide +kernel)
theorem dX9_byThree_126 : decode cX9_byThree 126 = .ok (.getfield 206, 3) := dq_180 (by decide +kernel)
theorem dX9_byThree_129 : decode cX9_byThree 129 = .ok (.lmul, 1) := dq_105 (by decide +kernel)
theorem dX9_byThree_130 : decode cX9_byThree 130 = .ok (.lsub, 1) := dq_101 (by decide +kernel)
theorem dX9_byThree_131 : decode cX9_byThree 131 = .ok (.lmul, 1) := dq_105 (by decide +kernel)
theorem dX9_byThree_132 : decode cX9_byThree 132 = .ok (.lsub, 1) := dq_101 (by decide +kernel)
theorem dX9_byThree_133 : decode cX9_byThree 133 = .ok (.aload_n 0, 1) := dq_42 (by decide +kernel)
theorem dX9_byThree_134 : decode cX9_byThree 134 = .ok (.getfield 206, 3) := dq_180 (by decide +kernel)
theorem dX9_byThree_137 : decode cX9_byThree 137 = .ok (.aload_n 0, 1) := dq_42 (by decide +kernel)
theorem dX9_byThree_138 : decode cX9_byThree 138 = .ok (.getfield 203, 3) := dq_180 (by decide +kernel)
theorem dX9_byThree_141 : decode cX9_byThree 141 = .ok (.aload_n 0, 1) := dq_42 (by decide +kernel)
theorem dX9_byThree_142 : decode cX9_byThree 142 = .ok (.getfield 224, 3) := dq_180 (by decide +kernel)
theorem dX9_byThree_145 : decode cX9_byThree 145 = .ok (.lmul, 1) := dq_105 (by decide +kernel)
theorem dX9_byThree_146 : decode cX9_byThree 146 = .ok (.aload_n 0, 1) := dq_42 (by decide +kernel)
theorem dX9_byThree_147 : decode cX9_byThree 147 = .ok (.getfield 221, 3) := dq_180 (by decide +kernel)
theorem dX9_byThree_150 : decode cX9_byThree 150 = .ok (.aload_n 0, 1) := dq_42 (by decide +kernel)
theorem dX9_byThree_151 : decode cX9_byThree 151 = .ok (.getfield 206, 3) := dq_180 (by decide +kernel)
theorem dX9_byThree_154 : decode cX9_byThree 154 = .ok (.lmul, 1) := dq_105 (by decide +kernel)
theorem dX9_byThree_155 : decode cX9_byThree 155 = .ok (.lsub, 1) := dq_101 (by decide +kernel)
theorem dX9_byThree_156 : decode cX9_byThree 156 = .ok (.lmul, 1) := dq_105 (by decide +kernel)
theorem dX9_byThree_157 : decode cX9_byThree 157 = .ok (.ladd, 1) := dq_97 (by decide +kernel)
theorem dX9_byThree_158 : decode cX9_byThree 158 = .ok (.lstore 7, 2) := dq_55 (by decide +kernel)
theorem dX9_byThree_160 : decode cX9_byThree 160 = .ok (.aload_n 0, 1) := dq_42 (by decide +kernel)
theorem dX9_byThree_161 : decode cX9_byThree 161 = .ok (.getfield 199, 3) := dq_180 (by decide +kernel)
theorem dX9_byThree_164 : decode cX9_byThree 164 = .ok (.aload_n 0, 1) := dq_42 (by decide +kernel)
theorem dX9_byThree_165 : decode cX9_byThree 165 = .ok (.getfield 212, 3) := dq_180 (by decide +kernel)
theorem dX9_byThree_168 : decode cX9_byThree 168 = .ok (.aload_n 0, 1) := dq_42 (by decide +kernel)
theorem dX9_byThree_169 : decode cX9_byThree 169 = .ok (.getfield 224, 3) := dq_180 (by decide +kernel)
theorem dX9_byThree_172 : decode cX9_byThree 172 = .ok (.lmul, 1) := dq_105 (by decide +kernel)
theorem dX9_byThree_173 : decode cX9_byThree 173 = .ok (.aload_n 0, 1) := dq_42 (by decide +kernel)
theorem dX9_byThree_174 : decode cX9_byThree 174 = .ok (.getfield 221, 3) := dq_180 (by decide +kernel)
theorem dX9_byThree_177 : decode cX9_byThree 177 = .ok (.aload_n 0, 1) := dq_42 (by decide +kernel)
theorem dX9_byThree_178 : decode cX9_byThree 178 = .ok (.getfield 215, 3) := dq_180 (by decide +kernel)
theorem dX9_byThree_181 : decode cX9_byThree 181 = .ok (.lmul, 1) := dq_105 (by decide +kernel)
theorem dX9_byThree_182 : decode cX9_byThree 182 = .ok (.lsub, 1) := dq_101 (by decide +kernel)
theorem dX9_byThree_183 : decode cX9_byThree 183 = .ok (.lmul, 1) := dq_105 (by decide +kernel)
theorem dX9_byThree_184 : decode cX9_byThree 184 = .ok (.aload_n 0, 1) := dq_42 (by decide +kernel)
theorem dX9_byThree_185 : decode cX9_byThree 185 = .ok (.getfield 203, 3) := dq_180 (by decide +kernel)
theorem dX9_byThree_188 : decode cX9_byThree 188 = .ok (.aload_n 0, 1) := dq_42 (by decide +kernel)
theorem dX9_byThree_189 : decode cX9_byThree 189 = .ok (.getfield 203, 3) := dq_180 (by decide +kernel)
theorem dX9_byThree_192 : decode cX9_byThree 192 = .ok (.aload_n 0, 1) := dq_42 (by decide +kernel)
theorem dX9_byThree_193 : decode cX9_byThree 193 = .ok (.getfield 224, 3) := dq_180 (by decide +kernel)
theorem dX9_byThree_196 : decode cX9_byThree 196 = .ok (.lmul, 1) := dq_105 (by decide +kernel)
theorem dX9_byThree_197 : decode cX9_byThree 197 = .ok (.aload_n 0, 1) := dq_42 (by decide +kernel)
theorem dX9_byThree_198 : decode cX9_byThree 198 = .ok (.getfield 221, 3) := dq_180 (by decide +kernel)
theorem dX9_byThree_201 : decode cX9_byThree 201 = .ok (.aload_n 0, 1) := dq_42 (by decide +kernel)
theorem dX9_byThree_202 : decode cX9_byThree 202 = .ok (.getfield 206, 3) := dq_180 (by decide +kernel)
theorem dX9_byThree_205 : decode cX9_byThree 205 = .ok (.lmul, 1) := dq_105 (by decide +kernel)
theorem dX9_byThree_206 : decode cX9_byThree 206 = .ok (.lsub, 1) := dq_101 (by decide +kernel)
theorem dX9_byThree_207 : decode cX9_byThree 207 = .ok (.lmul, 1) := dq_105 (by decide +kernel)
theorem dX9_byThree_208 : decode cX9_byThree 208 = .ok (.lsub, 1) := dq_101 (by decide +kernel)
theorem dX9_byThree_209 : decode cX9_byThree 209 = .ok (.aload_n 0, 1) := dq_42 (by decide +kernel)
theorem dX9_byThree_210 : decode cX9_byThree 210 = .ok (.getfield 209, 3) := dq_180 (by decide +kernel)
theorem dX9_byThree_213 : decode cX9_byThree 213 = .ok (.aload_n 0, 1) := dq_42 (by decide +kernel)
theorem dX9_byThree_214 : decode cX9_byThree 214 = .ok (.getfield 203, 3) := dq_180 (by decide +kernel)
theorem dX9_byThree_217 : decode cX9_byThree 217 = .ok (.aload_n 0, 1) := dq_42 (by decide +kernel)
theorem dX9_byThree_218 : decode cX9_byThree 218 = .ok (.getfield 215, 3) := dq_180 (by decide +kernel)
theorem dX9_byThree_221 : decode cX9_byThree 221 = .ok (.lmul, 1) := dq_105 (by decide +kernel)
theorem dX9_byThree_222 : decode cX9_byThree 222 = .ok (.aload_n 0, 1) := dq_42 (by decide +kernel)
theorem dX9_byThree_223 : decode cX9_byThree 223 = .ok (.getfield 212, 3) := dq_180 (by decide +kernel)
theorem dX9_byThree_226 : decode cX9_byThree 226 = .ok (.aload_n 0, 1) := dq_42 (by decide +kernel)
theorem dX9_byThree_227 : decode cX9_byThree 227 = .ok (.getfield 206, 3) := dq_180 (by decide +kernel)
theorem dX9_byThree_230 : decode cX9_byThree 230 = .ok (.lmul, 1) := dq_105 (by decide +kernel)
theorem dX9_byThree_231 : decode cX9_byThree 231 = .ok (.lsub, 1) := dq_101 (by decide +kernel)
theorem dX9_byThree_232 : decode cX9_byThree 232 = .ok (.lmul, 1) := dq_105 (by decide +kernel)
theorem dX9_byThree_233 : decode cX9_byThree 233 = .ok (.ladd, 1) := dq_97 (by decide +kernel)
theorem dX9_byThree_234 : decode cX9_byThree 234 = .ok (.lstore 9, 2) := dq_55 (by decide +kernel)
theorem dX9_byThree_236 : decode cX9_byThree 236 = .ok (.aload_n 0, 1) := dq_42 (by decide +kernel)
theorem dX9_byThree_237 : decode cX9_byThree 237 = .ok (.lload 5, 2) := dq_22 (by decide +kernel)
theorem dX9_byThree_239 : decode cX9_byThree 239 = .ok (.lload 7, 2) := dq_22 (by decide +kernel)
theorem dX9_byThree_241 : decode cX9_byThree 241 = .ok (.lload_n 1, 1) := dq_31 (by decide +kernel)
theorem dX9_byThree_242 : decode cX9_byThree 242 = .ok (.lmul, 1) := dq_105 (by decide +kernel)
theorem dX9_byThree_243 : decode cX9_byThree 243 = .ok (.ladd, 1) := dq_97 (by decide +kernel)
theorem dX9_byThree_244 : decode cX9_byThree 244 = .ok (.lload 9, 2) := dq_22 (by decide +kernel)
theorem dX9_byThree_246 : decode cX9_byThree 246 = .ok (.lload_n 3, 1) := dq_33 (by decide +kernel)
theorem dX9_byThree_247 : decode cX9_byThree 247 = .ok (.lmul, 1) := dq_105 (by decide +kernel)
theorem dX9_byThree_248 : decode cX9_byThree 248 = .ok (.ladd, 1) := dq_97 (by decide +kernel)
theorem dX9_byThree_249 : decode cX9_byThree 249 = .ok (.putfield 256, 3) := dq_181 (by decide +kernel)
theorem dX9_byThree_252 : decode cX9_byThree 252 = .ok (.return_, 1) := dq_177 (by decide +kernel)
theorem dX9_byTwo_0 : decode cX9_byTwo 0 = .ok (.aload_n 0, 1) := dq_42 (by decide +kernel)
theorem dX9_byTwo_1 : decode cX9_byTwo 1 = .ok (.aload_n 0, 1) := dq_42 (by decide +kernel)
theorem dX9_byTwo_2 : decode cX9_byTwo 2 = .ok (.lload_n 1, 1) := dq_31 (by decide +kernel)
theorem dX9_byTwo_3 : decode cX9_byTwo 3 = .ok (.lload_n 3, 1) := dq_33 (by decide +kernel)
theorem dX9_byTwo_4 : decode cX9_byTwo 4 = .ok (.invokevirtual 238, 3) := dq_182 (by decide +kernel)
theorem dX9_byTwo_7 : decode cX9_byTwo 7 = .ok (.putfield 253, 3) := dq_181 (by decide +kernel)
theorem dX9_byTwo_10 : decode cX9_byTwo 10 = .ok (.aload_n 0, 1) := dq_42 (by decide +kernel)
theorem dX9_byTwo_11 : decode cX9_byTwo 11 = .ok (.aload_n 0, 1) := dq_42 (by decide +kernel)
theorem dX9_byTwo_12 : decode cX9_byTwo 12 = .ok (.getfield 209, 3) := dq_180 (by decide +kernel)
theorem dX9_byTwo_15 : decode cX9_byTwo 15 = .ok (.lload_n 3, 1) := dq_33 (by decide +kernel)
theorem dX9_byTwo_16 : decode cX9_byTwo 16 = .ok (.lmul, 1) := dq_105 (by decide +kernel)
theorem dX9_byTwo_17 : decode cX9_byTwo 17 = .ok (.lload_n 1, 1) := dq_31 (by decide +kernel)
theorem dX9_byTwo_18 : decode cX9_byTwo 18 = .ok (.lload 5, 2) := dq_22 (by decide +kernel)
theorem dX9_byTwo_20 : decode cX9_byTwo 20 = .ok (.lmul, 1) := dq_105 (by decide +kernel)
theorem dX9_byTwo_21 : decode cX9_byTwo 21 = .ok (.lsub, 1) := dq_101 (by decide +kernel)
theorem dX9_byTwo_22 : decode cX9_byTwo 22 = .ok (.aload_n 0, 1) := dq_42 (by decide +kernel)
theorem dX9_byTwo_23 : decode cX9_byTwo 23 = .ok (.getfield 199, 3) := dq_180 (by decide +kernel)
theorem dX9_byTwo_26 : decode cX9_byTwo 26 = .ok (.lload 5, 2) := dq_22 (by decide +kernel)
theorem dX9_byTwo_28 : decode cX9_byTwo 28 = .ok (.lmul, 1) := dq_105 (by decide +kernel)
theorem dX9_byTwo_29 : decode cX9_byTwo 29 = .ok (.lload_n 1, 1) := dq_31 (by decide +kernel)
theorem dX9_byTwo_30 : decode cX9_byTwo 30 = .ok (.aload_n 0, 1) := dq_42 (by decide +kernel)
theorem dX9_byTwo_31 : decode cX9_byTwo 31 = .ok (.getfield 209, 3) := dq_180 (by decide +kernel)
theorem dX9_byTwo_34 : decode cX9_byTwo 34 = .ok (.lmul, 1) := dq_105 (by decide +kernel)
theorem dX9_byTwo_35 : decode cX9_byTwo 35 = .ok (.lsub, 1) := dq_101 (by decide +kernel)
theorem dX9_byTwo_36 : decode cX9_byTwo 36 = .ok (.lload 7, 2) := dq_22 (by decide +kernel)
theorem dX9_byTwo_38 : decode cX9_byTwo 38 = .ok (.lmul, 1) := dq_105 (by decide +kernel)
theorem dX9_byTwo_39 : decode cX9_byTwo 39 = .ok (.ladd, 1) := dq_97 (by decide +kernel)
theorem dX9_byTwo_40 : decode cX9_byTwo 40 = .ok (.putfield 256, 3) := dq_181 (by decide +kernel)
theorem dX9_byTwo_43 : decode cX9_byTwo 43 = .ok (.return_, 1) := dq_177 (by decide +kernel)
theorem dX9_carried_0 : decode cX9_carried 0 = .ok (.iload_n 1, 1) := dq_27 (by decide +kernel)
theorem dX9_carried_1 : decode cX9_carried 1 = .ok (.invokestatic 386, 3) := dq_184 (by decide +kernel)
theorem dX9_carried_4 : decode cX9_carried 4 = .ok (.ifCond .eq 21, 3) := dq_153 (by decide +kernel)
theorem dX9_carried_7 : decode cX9_carried 7 = .ok (.iload_n 2, 1) := dq_28 (by decide +kernel)
theorem dX9_carried_8 : decode cX9_carried 8 = .ok (.iconst 0, 1) := dq_3 (by decide +kernel)
theorem dX9_carried_9 : decode cX9_carried 9 = .ok (.iconst 2, 1) := dq_5 (by decide +kernel)
theorem dX9_carried_10 : decode cX9_carried 10 = .ok (.invokestatic 148, 3) := dq_184 (by decide +kernel)
theorem dX9_carried_13 : decode cX9_carried 13 = .ok (.ifCond .eq 12, 3) := dq_153 (by decide +kernel)
theorem dX9_carried_16 : decode cX9_carried 16 = .ok (.aload_n 0, 1) := dq_42 (by decide +kernel)
theorem dX9_carried_17 : decode cX9_carried 17 = .ok (.getfield 91, 3) := dq_180 (by decide +kernel)
theorem dX9_carried_20 : decode cX9_carried 20 = .ok (.iload_n 1, 1) := dq_27 (by decide +kernel)
theorem dX9_carried_21 : decode cX9_carried 21 = .ok (.iaload, 1) := dq_46 (by decide +kernel)
theorem dX9_carried_22 : decode cX9_carried 22 = .ok (.ifCond .ne 6, 3) := dq_154 (by decide +kernel)
theorem dX9_carried_25 : decode cX9_carried 25 = .ok (.ldc 169, 2) := dq_18 (by decide +kernel)
theorem dX9_carried_27 : decode cX9_carried 27 = .ok (.ireturn, 1) := dq_172 (by decide +kernel)
theorem dX9_carried_28 : decode cX9_carried 28 = .ok (.iconst 3, 1) := dq_6 (by decide +kernel)
theorem dX9_carried_29 : decode cX9_carried 29 = .ok (.iload_n 1, 1) := dq_27 (by decide +kernel)
theorem dX9_carried_30 : decode cX9_carried 30 = .ok (.imul, 1) := dq_104 (by decide +kernel)
theorem dX9_carried_31 : decode cX9_carried 31 = .ok (.iload_n 2, 1) := dq_28 (by decide +kernel)
theorem dX9_carried_32 : decode cX9_carried 32 = .ok (.iadd, 1) := dq_96 (by decide +kernel)
theorem dX9_carried_33 : decode cX9_carried 33 = .ok (.istore 4, 2) := dq_54 (by decide +kernel)
theorem dX9_carried_35 : decode cX9_carried 35 = .ok (.iload_n 3, 1) := dq_29 (by decide +kernel)
theorem dX9_carried_36 : decode cX9_carried 36 = .ok (.tableswitch 64 0 3 #[32, 40, 48, 56], 32) := by decide +kernel
theorem dX9_carried_68 : decode cX9_carried 68 = .ok (.aload_n 0, 1) := dq_42 (by decide +kernel)
theorem dX9_carried_69 : decode cX9_carried 69 = .ok (.getfield 100, 3) := dq_180 (by decide +kernel)
theorem dX9_carried_72 : decode cX9_carried 72 = .ok (.iload 4, 2) := dq_21 (by decide +kernel)
theorem dX9_carried_74 : decode cX9_carried 74 = .ok (.iaload, 1) := dq_46 (by decide +kernel)
theorem dX9_carried_75 : decode cX9_carried 75 = .ok (.ireturn, 1) := dq_172 (by decide +kernel)
theorem dX9_carried_76 : decode cX9_carried 76 = .ok (.aload_n 0, 1) := dq_42 (by decide +kernel)
theorem dX9_carried_77 : decode cX9_carried 77 = .ok (.getfield 103, 3) := dq_180 (by decide +kernel)
theorem dX9_carried_80 : decode cX9_carried 80 = .ok (.iload 4, 2) := dq_21 (by decide +kernel)
theorem dX9_carried_82 : decode cX9_carried 82 = .ok (.iaload, 1) := dq_46 (by decide +kernel)
theorem dX9_carried_83 : decode cX9_carried 83 = .ok (.ireturn, 1) := dq_172 (by decide +kernel)
theorem dX9_carried_84 : decode cX9_carried 84 = .ok (.aload_n 0, 1) := dq_42 (by decide +kernel)
theorem dX9_carried_85 : decode cX9_carried 85 = .ok (.getfield 106, 3) := dq_180 (by decide +kernel)
theorem dX9_carried_88 : decode cX9_carried 88 = .ok (.iload 4, 2) := dq_21 (by decide +kernel)
theorem dX9_carried_90 : decode cX9_carried 90 = .ok (.iaload, 1) := dq_46 (by decide +kernel)
theorem dX9_carried_91 : decode cX9_carried 91 = .ok (.ireturn, 1) := dq_172 (by decide +kernel)
theorem dX9_carried_92 : decode cX9_carried 92 = .ok (.aload_n 0, 1) := dq_42 (by decide +kernel)
theorem dX9_carried_93 : decode cX9_carried 93 = .ok (.getfield 109, 3) := dq_180 (by decide +kernel)
theorem dX9_carried_96 : decode cX9_carried 96 = .ok (.iload 4, 2) := dq_21 (by decide +kernel)
theorem dX9_carried_98 : decode cX9_carried 98 = .ok (.iaload, 1) := dq_46 (by decide +kernel)
theorem dX9_carried_99 : decode cX9_carried 99 = .ok (.ireturn, 1) := dq_172 (by decide +kernel)
theorem dX9_carried_100 : decode cX9_carried 100 = .ok (.ldc 169, 2) := dq_18 (by decide +kernel)
theorem dX9_carried_102 : decode cX9_carried 102 = .ok (.ireturn, 1) := dq_172 (by decide +kernel)
theorem dX9_changed_0 : decode cX9_changed 0 = .ok (.iload_n 1, 1) := dq_27 (by decide +kernel)
theorem dX9_changed_1 : decode cX9_changed 1 = .ok (.invokestatic 152, 3) := dq_184 (by decide +kernel)
theorem dX9_changed_4 : decode cX9_changed 4 = .ok (.ifCond .eq 19, 3) := dq_153 (by decide +kernel)
theorem dX9_changed_7 : decode cX9_changed 7 = .ok (.iload_n 2, 1) := dq_28 (by decide +kernel)
theorem dX9_changed_8 : decode cX9_changed 8 = .ok (.iload_n 3, 1) := dq_29 (by decide +kernel)
theorem dX9_changed_9 : decode cX9_changed 9 = .ok (.invokestatic 195, 3) := dq_184 (by decide +kernel)
theorem dX9_changed_12 : decode cX9_changed 12 = .ok (.ifCond .eq 11, 3) := dq_153 (by decide +kernel)
theorem dX9_changed_15 : decode cX9_changed 15 = .ok (.iload 4, 2) := dq_21 (by decide +kernel)
theorem dX9_changed_17 : decode cX9_changed 17 = .ok (.invokestatic 185, 3) := dq_184 (by decide +kernel)
theorem dX9_changed_20 : decode cX9_changed 20 = .ok (.ifCond .ne 5, 3) := dq_154 (by decide +kernel)
theorem dX9_changed_23 : decode cX9_changed 23 = .ok (.iconst (-1), 1) := dq_2 (by decide +kernel)
theorem dX9_changed_24 : decode cX9_changed 24 = .ok (.ireturn, 1) := dq_172 (by decide +kernel)
theorem dX9_changed_25 : decode cX9_changed 25 = .ok (.aload_n 0, 1) := dq_42 (by decide +kernel)
theorem dX9_changed_26 : decode cX9_changed 26 = .ok (.iload_n 1, 1) := dq_27 (by decide +kernel)
theorem dX9_changed_27 : decode cX9_changed 27 = .ok (.invokevirtual 172, 3) := dq_182 (by decide +kernel)
theorem dX9_changed_30 : decode cX9_changed 30 = .ok (.istore 5, 2) := dq_54 (by decide +kernel)
theorem dX9_changed_32 : decode cX9_changed 32 = .ok (.iload 5, 2) := dq_21 (by decide +kernel)
theorem dX9_changed_34 : decode cX9_changed 34 = .ok (.ifCond .ge 6, 3) := dq_156 (by decide +kernel)
theorem dX9_changed_37 : decode cX9_changed 37 = .ok (.iload 5, 2) := dq_21 (by decide +kernel)
theorem dX9_changed_39 : decode cX9_changed 39 = .ok (.ireturn, 1) := dq_172 (by decide +kernel)
theorem dX9_changed_40 : decode cX9_changed 40 = .ok (.iconst 0, 1) := dq_3 (by decide +kernel)
theorem dX9_changed_41 : decode cX9_changed 41 = .ok (.istore 6, 2) := dq_54 (by decide +kernel)
theorem dX9_changed_43 : decode cX9_changed 43 = .ok (.iload_n 2, 1) := dq_28 (by decide +kernel)
theorem dX9_changed_44 : decode cX9_changed 44 = .ok (.istore 7, 2) := dq_54 (by decide +kernel)
theorem dX9_changed_46 : decode cX9_changed 46 = .ok (.iload 7, 2) := dq_21 (by decide +kernel)
theorem dX9_changed_48 : decode cX9_changed 48 = .ok (.iload_n 3, 1) := dq_29 (by decide +kernel)
theorem dX9_changed_49 : decode cX9_changed 49 = .ok (.if_icmp .ge 39, 3) := dq_162 (by decide +kernel)
theorem dX9_changed_52 : decode cX9_changed 52 = .ok (.iload 6, 2) := dq_21 (by decide +kernel)
theorem dX9_changed_54 : decode cX9_changed 54 = .ok (.aload_n 0, 1) := dq_42 (by decide +kernel)
theorem dX9_changed_55 : decode cX9_changed 55 = .ok (.iload_n 1, 1) := dq_27 (by decide +kernel)
theorem dX9_changed_56 : decode cX9_changed 56 = .ok (.iload 7, 2) := dq_21 (by decide +kernel)
theorem dX9_changed_58 : decode cX9_changed 58 = .ok (.iload 4, 2) := dq_21 (by decide +kernel)
theorem dX9_changed_60 : decode cX9_changed 60 = .ok (.invokevirtual 188, 3) := dq_182 (by decide +kernel)
theorem dX9_changed_63 : decode cX9_changed 63 = .ok (.aload_n 0, 1) := dq_42 (by decide +kernel)
theorem dX9_changed_64 : decode cX9_changed 64 = .ok (.iload_n 1, 1) := dq_27 (by decide +kernel)
theorem dX9_changed_65 : decode cX9_changed 65 = .ok (.iload 7, 2) := dq_21 (by decide +kernel)
theorem dX9_changed_67 : decode cX9_changed 67 = .ok (.iconst (-1), 1) := dq_2 (by decide +kernel)
theorem dX9_changed_68 : decode cX9_changed 68 = .ok (.invokevirtual 188, 3) := dq_182 (by decide +kernel)
theorem dX9_changed_71 : decode cX9_changed 71 = .ok (.if_icmp .ne 7, 3) := dq_160 (by decide +kernel)
theorem dX9_changed_74 : decode cX9_changed 74 = .ok (.iconst 0, 1) := dq_3 (by decide +kernel)
theorem dX9_changed_75 : decode cX9_changed 75 = .ok (.goto 4, 3) := dq_167 (by decide +kernel)
theorem dX9_changed_78 : decode cX9_changed 78 = .ok (.iconst 1, 1) := dq_4 (by decide +kernel)
theorem dX9_changed_79 : decode cX9_changed 79 = .ok (.iadd, 1) := dq_96 (by decide +kernel)
theorem dX9_changed_80 : decode cX9_changed 80 = .ok (.istore 6, 2) := dq_54 (by decide +kernel)
theorem dX9_changed_82 : decode cX9_changed 82 = .ok (.iinc 7 1, 3) := dq_132 (by decide +kernel)
theorem dX9_changed_85 : decode cX9_changed 85 = .ok (.goto (-39), 3) := dq_167 (by decide +kernel)
theorem dX9_changed_88 : decode cX9_changed 88 = .ok (.iload 6, 2) := dq_21 (by decide +kernel)
theorem dX9_changed_90 : decode cX9_changed 90 = .ok (.ireturn, 1) := dq_172 (by decide +kernel)
theorem dX9_compare_0 : decode cX9_compare 0 = .ok (.iload_n 1, 1) := dq_27 (by decide +kernel)
theorem dX9_compare_1 : decode cX9_compare 1 = .ok (.invokestatic 152, 3) := dq_184 (by decide +kernel)
theorem dX9_compare_4 : decode cX9_compare 4 = .ok (.ifCond .eq 36, 3) := dq_153 (by decide +kernel)
theorem dX9_compare_7 : decode cX9_compare 7 = .ok (.iload_n 2, 1) := dq_28 (by decide +kernel)
theorem dX9_compare_8 : decode cX9_compare 8 = .ok (.iconst 0, 1) := dq_3 (by decide +kernel)
theorem dX9_compare_9 : decode cX9_compare 9 = .ok (.aload_n 0, 1) := dq_42 (by decide +kernel)
theorem dX9_compare_10 : decode cX9_compare 10 = .ok (.getfield 156, 3) := dq_180 (by decide +kernel)
theorem dX9_compare_13 : decode cX9_compare 13 = .ok (.invokestatic 148, 3) := dq_184 (by decide +kernel)
theorem dX9_compare_16 : decode cX9_compare 16 = .ok (.ifCond .eq 24, 3) := dq_153 (by decide +kernel)
theorem dX9_compare_19 : decode cX9_compare 19 = .ok (.iload_n 3, 1) := dq_29 (by decide +kernel)
theorem dX9_compare_20 : decode cX9_compare 20 = .ok (.ldc 170, 2) := dq_18 (by decide +kernel)
theorem dX9_compare_22 : decode cX9_compare 22 = .ok (.ldc 171, 2) := dq_18 (by decide +kernel)
theorem dX9_compare_24 : decode cX9_compare 24 = .ok (.invokestatic 148, 3) := dq_184 (by decide +kernel)
theorem dX9_compare_27 : decode cX9_compare 27 = .ok (.ifCond .eq 13, 3) := dq_153 (by decide +kernel)
theorem dX9_compare_30 : decode cX9_compare 30 = .ok (.iload 4, 2) := dq_21 (by decide +kernel)
theorem dX9_compare_32 : decode cX9_compare 32 = .ok (.iconst 0, 1) := dq_3 (by decide +kernel)
theorem dX9_compare_33 : decode cX9_compare 33 = .ok (.iconst 5, 1) := dq_8 (by decide +kernel)
theorem dX9_compare_34 : decode cX9_compare 34 = .ok (.invokestatic 148, 3) := dq_184 (by decide +kernel)
theorem dX9_compare_37 : decode cX9_compare 37 = .ok (.ifCond .ne 5, 3) := dq_154 (by decide +kernel)
theorem dX9_compare_40 : decode cX9_compare 40 = .ok (.iconst (-1), 1) := dq_2 (by decide +kernel)
theorem dX9_compare_41 : decode cX9_compare 41 = .ok (.ireturn, 1) := dq_172 (by decide +kernel)
theorem dX9_compare_42 : decode cX9_compare 42 = .ok (.aload_n 0, 1) := dq_42 (by decide +kernel)
theorem dX9_compare_43 : decode cX9_compare 43 = .ok (.iload_n 1, 1) := dq_27 (by decide +kernel)
theorem dX9_compare_44 : decode cX9_compare 44 = .ok (.invokevirtual 172, 3) := dq_182 (by decide +kernel)
theorem dX9_compare_47 : decode cX9_compare 47 = .ok (.istore 5, 2) := dq_54 (by decide +kernel)
theorem dX9_compare_49 : decode cX9_compare 49 = .ok (.iload 5, 2) := dq_21 (by decide +kernel)
theorem dX9_compare_51 : decode cX9_compare 51 = .ok (.ifCond .ge 6, 3) := dq_156 (by decide +kernel)
theorem dX9_compare_54 : decode cX9_compare 54 = .ok (.iload 5, 2) := dq_21 (by decide +kernel)
theorem dX9_compare_56 : decode cX9_compare 56 = .ok (.ireturn, 1) := dq_172 (by decide +kernel)
theorem dX9_compare_57 : decode cX9_compare 57 = .ok (.sipush 400, 3) := dq_17 (by decide +kernel)
theorem dX9_compare_60 : decode cX9_compare 60 = .ok (.iload_n 1, 1) := dq_27 (by decide +kernel)
theorem dX9_compare_61 : decode cX9_compare 61 = .ok (.imul, 1) := dq_104 (by decide +kernel)
theorem dX9_compare_62 : decode cX9_compare 62 = .ok (.iload_n 2, 1) := dq_28 (by decide +kernel)
theorem dX9_compare_63 : decode cX9_compare 63 = .ok (.iadd, 1) := dq_96 (by decide +kernel)
theorem dX9_compare_64 : decode cX9_compare 64 = .ok (.istore 6, 2) := dq_54 (by decide +kernel)
theorem dX9_compare_66 : decode cX9_compare 66 = .ok (.aload_n 0, 1) := dq_42 (by decide +kernel)
theorem dX9_compare_67 : decode cX9_compare 67 = .ok (.getfield 23, 3) := dq_180 (by decide +kernel)
theorem dX9_compare_70 : decode cX9_compare 70 = .ok (.iload 6, 2) := dq_21 (by decide +kernel)
theorem dX9_compare_72 : decode cX9_compare 72 = .ok (.baload, 1) := dq_51 (by decide +kernel)
theorem dX9_compare_73 : decode cX9_compare 73 = .ok (.ifCond .ne 14, 3) := dq_154 (by decide +kernel)
theorem dX9_compare_76 : decode cX9_compare 76 = .ok (.aload_n 0, 1) := dq_42 (by decide +kernel)
theorem dX9_compare_77 : decode cX9_compare 77 = .ok (.getfield 39, 3) := dq_180 (by decide +kernel)
theorem dX9_compare_80 : decode cX9_compare 80 = .ok (.iload 6, 2) := dq_21 (by decide +kernel)
theorem dX9_compare_82 : decode cX9_compare 82 = .ok (.iaload, 1) := dq_46 (by decide +kernel)
theorem dX9_compare_83 : decode cX9_compare 83 = .ok (.iconst (-1), 1) := dq_2 (by decide +kernel)
theorem dX9_compare_84 : decode cX9_compare 84 = .ok (.if_icmp .eq 6, 3) := dq_159 (by decide +kernel)
theorem dX9_compare_87 : decode cX9_compare 87 = .ok (.bipush (-4), 2) := dq_16 (by decide +kernel)
theorem dX9_compare_89 : decode cX9_compare 89 = .ok (.ireturn, 1) := dq_172 (by decide +kernel)
theorem dX9_compare_90 : decode cX9_compare 90 = .ok (.aload_n 0, 1) := dq_42 (by decide +kernel)
theorem dX9_compare_91 : decode cX9_compare 91 = .ok (.getfield 23, 3) := dq_180 (by decide +kernel)
theorem dX9_compare_94 : decode cX9_compare 94 = .ok (.iload 6, 2) := dq_21 (by decide +kernel)
theorem dX9_compare_96 : decode cX9_compare 96 = .ok (.iconst 1, 1) := dq_4 (by decide +kernel)
theorem dX9_compare_97 : decode cX9_compare 97 = .ok (.bastore, 1) := dq_84 (by decide +kernel)
theorem dX9_compare_98 : decode cX9_compare 98 = .ok (.aload_n 0, 1) := dq_42 (by decide +kernel)
theorem dX9_compare_99 : decode cX9_compare 99 = .ok (.getfield 27, 3) := dq_180 (by decide +kernel)
theorem dX9_compare_102 : decode cX9_compare 102 = .ok (.iload 6, 2) := dq_21 (by decide +kernel)
theorem dX9_compare_104 : decode cX9_compare 104 = .ok (.iload_n 3, 1) := dq_29 (by decide +kernel)
theorem dX9_compare_105 : decode cX9_compare 105 = .ok (.iastore, 1) := dq_79 (by decide +kernel)
theorem dX9_compare_106 : decode cX9_compare 106 = .ok (.aload_n 0, 1) := dq_42 (by decide +kernel)
theorem dX9_compare_107 : decode cX9_compare 107 = .ok (.getfield 30, 3) := dq_180 (by decide +kernel)
theorem dX9_compare_110 : decode cX9_compare 110 = .ok (.iload 6, 2) := dq_21 (by decide +kernel)
theorem dX9_compare_112 : decode cX9_compare 112 = .ok (.iload 4, 2) := dq_21 (by decide +kernel)
theorem dX9_compare_114 : decode cX9_compare 114 = .ok (.iastore, 1) := dq_79 (by decide +kernel)
theorem dX9_compare_115 : decode cX9_compare 115 = .ok (.iconst 1, 1) := dq_4 (by decide +kernel)
theorem dX9_compare_116 : decode cX9_compare 116 = .ok (.ireturn, 1) := dq_172 (by decide +kernel)
theorem dX9_count_0 : decode cX9_count 0 = .ok (.iconst 0, 1) := dq_3 (by decide +kernel)
theorem dX9_count_1 : decode cX9_count 1 = .ok (.istore_n 2, 1) := dq_61 (by decide +kernel)
theorem dX9_count_2 : decode cX9_count 2 = .ok (.iload_n 1, 1) := dq_27 (by decide +kernel)
theorem dX9_count_3 : decode cX9_count 3 = .ok (.tableswitch 160 0 6 #[41, 73, 78, 83, 116, 121, 155], 41) := by decide +kernel
theorem dX9_count_44 : decode cX9_count 44 = .ok (.iconst 0, 1) := dq_3 (by decide +kernel)
theorem dX9_count_45 : decode cX9_count 45 = .ok (.istore_n 3, 1) := dq_62 (by decide +kernel)
theorem dX9_count_46 : decode cX9_count 46 = .ok (.iload_n 3, 1) := dq_29 (by decide +kernel)
theorem dX9_count_47 : decode cX9_count 47 = .ok (.bipush 16, 2) := dq_16 (by decide +kernel)
theorem dX9_count_49 : decode cX9_count 49 = .ok (.if_icmp .ge 25, 3) := dq_162 (by decide +kernel)
theorem dX9_count_52 : decode cX9_count 52 = .ok (.iload_n 2, 1) := dq_28 (by decide +kernel)
theorem dX9_count_53 : decode cX9_count 53 = .ok (.aload_n 0, 1) := dq_42 (by decide +kernel)
theorem dX9_count_54 : decode cX9_count 54 = .ok (.iload_n 3, 1) := dq_29 (by decide +kernel)
theorem dX9_count_55 : decode cX9_count 55 = .ok (.invokevirtual 162, 3) := dq_182 (by decide +kernel)
theorem dX9_count_58 : decode cX9_count 58 = .ok (.ifCond .eq 7, 3) := dq_153 (by decide +kernel)
theorem dX9_count_61 : decode cX9_count 61 = .ok (.iconst 1, 1) := dq_4 (by decide +kernel)
theorem dX9_count_62 : decode cX9_count 62 = .ok (.goto 4, 3) := dq_167 (by decide +kernel)
theorem dX9_count_65 : decode cX9_count 65 = .ok (.iconst 0, 1) := dq_3 (by decide +kernel)
theorem dX9_count_66 : decode cX9_count 66 = .ok (.iadd, 1) := dq_96 (by decide +kernel)
theorem dX9_count_67 : decode cX9_count 67 = .ok (.istore_n 2, 1) := dq_61 (by decide +kernel)
theorem dX9_count_68 : decode cX9_count 68 = .ok (.iinc 3 1, 3) := dq_132 (by decide +kernel)
theorem dX9_count_71 : decode cX9_count 71 = .ok (.goto (-25), 3) := dq_167 (by decide +kernel)
theorem dX9_count_74 : decode cX9_count 74 = .ok (.iload_n 2, 1) := dq_28 (by decide +kernel)
theorem dX9_count_75 : decode cX9_count 75 = .ok (.ireturn, 1) := dq_172 (by decide +kernel)
theorem dX9_count_76 : decode cX9_count 76 = .ok (.aload_n 0, 1) := dq_42 (by decide +kernel)
theorem dX9_count_77 : decode cX9_count 77 = .ok (.getfield 156, 3) := dq_180 (by decide +kernel)
theorem dX9_count_80 : decode cX9_count 80 = .ok (.ireturn, 1) := dq_172 (by decide +kernel)
theorem dX9_count_81 : decode cX9_count 81 = .ok (.aload_n 0, 1) := dq_42 (by decide +kernel)
theorem dX9_count_82 : decode cX9_count 82 = .ok (.getfield 175, 3) := dq_180 (by decide +kernel)
theorem dX9_count_85 : decode cX9_count 85 = .ok (.ireturn, 1) := dq_172 (by decide +kernel)
theorem dX9_count_86 : decode cX9_count 86 = .ok (.iconst 0, 1) := dq_3 (by decide +kernel)
theorem dX9_count_87 : decode cX9_count 87 = .ok (.istore_n 3, 1) := dq_62 (by decide +kernel)
theorem dX9_count_88 : decode cX9_count 88 = .ok (.iload_n 3, 1) := dq_29 (by decide +kernel)
theorem dX9_count_89 : decode cX9_count 89 = .ok (.iconst 5, 1) := dq_8 (by decide +kernel)
theorem dX9_count_90 : decode cX9_count 90 = .ok (.if_icmp .ge 27, 3) := dq_162 (by decide +kernel)
theorem dX9_count_93 : decode cX9_count 93 = .ok (.iload_n 2, 1) := dq_28 (by decide +kernel)
theorem dX9_count_94 : decode cX9_count 94 = .ok (.aload_n 0, 1) := dq_42 (by decide +kernel)
theorem dX9_count_95 : decode cX9_count 95 = .ok (.getfield 91, 3) := dq_180 (by decide +kernel)
theorem dX9_count_98 : decode cX9_count 98 = .ok (.iload_n 3, 1) := dq_29 (by decide +kernel)
theorem dX9_count_99 : decode cX9_count 99 = .ok (.iaload, 1) := dq_46 (by decide +kernel)
theorem dX9_count_100 : decode cX9_count 100 = .ok (.iconst 1, 1) := dq_4 (by decide +kernel)
theorem dX9_count_101 : decode cX9_count 101 = .ok (.if_icmp .ne 7, 3) := dq_160 (by decide +kernel)
theorem dX9_count_104 : decode cX9_count 104 = .ok (.iconst 1, 1) := dq_4 (by decide +kernel)
theorem dX9_count_105 : decode cX9_count 105 = .ok (.goto 4, 3) := dq_167 (by decide +kernel)
theorem dX9_count_108 : decode cX9_count 108 = .ok (.iconst 0, 1) := dq_3 (by decide +kernel)
theorem dX9_count_109 : decode cX9_count 109 = .ok (.iadd, 1) := dq_96 (by decide +kernel)
theorem dX9_count_110 : decode cX9_count 110 = .ok (.istore_n 2, 1) := dq_61 (by decide +kernel)
theorem dX9_count_111 : decode cX9_count 111 = .ok (.iinc 3 1, 3) := dq_132 (by decide +kernel)
theorem dX9_count_114 : decode cX9_count 114 = .ok (.goto (-26), 3) := dq_167 (by decide +kernel)
theorem dX9_count_117 : decode cX9_count 117 = .ok (.iload_n 2, 1) := dq_28 (by decide +kernel)
theorem dX9_count_118 : decode cX9_count 118 = .ok (.ireturn, 1) := dq_172 (by decide +kernel)
theorem dX9_count_119 : decode cX9_count 119 = .ok (.aload_n 0, 1) := dq_42 (by decide +kernel)
theorem dX9_count_120 : decode cX9_count 120 = .ok (.getfield 284, 3) := dq_180 (by decide +kernel)
theorem dX9_count_123 : decode cX9_count 123 = .ok (.ireturn, 1) := dq_172 (by decide +kernel)
theorem dX9_count_124 : decode cX9_count 124 = .ok (.iconst 0, 1) := dq_3 (by decide +kernel)
theorem dX9_count_125 : decode cX9_count 125 = .ok (.istore_n 3, 1) := dq_62 (by decide +kernel)
theorem dX9_count_126 : decode cX9_count 126 = .ok (.iload_n 3, 1) := dq_29 (by decide +kernel)
theorem dX9_count_127 : decode cX9_count 127 = .ok (.bipush 16, 2) := dq_16 (by decide +kernel)
theorem dX9_count_129 : decode cX9_count 129 = .ok (.if_icmp .ge 27, 3) := dq_162 (by decide +kernel)
theorem dX9_count_132 : decode cX9_count 132 = .ok (.iload_n 2, 1) := dq_28 (by decide +kernel)
theorem dX9_count_133 : decode cX9_count 133 = .ok (.aload_n 0, 1) := dq_42 (by decide +kernel)
theorem dX9_count_134 : decode cX9_count 134 = .ok (.getfield 17, 3) := dq_180 (by decide +kernel)
theorem dX9_count_137 : decode cX9_count 137 = .ok (.iload_n 3, 1) := dq_29 (by decide +kernel)
theorem dX9_count_138 : decode cX9_count 138 = .ok (.iaload, 1) := dq_46 (by decide +kernel)
theorem dX9_count_139 : decode cX9_count 139 = .ok (.iconst 2, 1) := dq_5 (by decide +kernel)
theorem dX9_count_140 : decode cX9_count 140 = .ok (.if_icmp .ne 7, 3) := dq_160 (by decide +kernel)
theorem dX9_count_143 : decode cX9_count 143 = .ok (.iconst 1, 1) := dq_4 (by decide +kernel)
theorem dX9_count_144 : decode cX9_count 144 = .ok (.goto 4, 3) := dq_167 (by decide +kernel)
theorem dX9_count_147 : decode cX9_count 147 = .ok (.iconst 0, 1) := dq_3 (by decide +kernel)
theorem dX9_count_148 : decode cX9_count 148 = .ok (.iadd, 1) := dq_96 (by decide +kernel)
theorem dX9_count_149 : decode cX9_count 149 = .ok (.istore_n 2, 1) := dq_61 (by decide +kernel)
theorem dX9_count_150 : decode cX9_count 150 = .ok (.iinc 3 1, 3) := dq_132 (by decide +kernel)
theorem dX9_count_153 : decode cX9_count 153 = .ok (.goto (-27), 3) := dq_167 (by decide +kernel)
theorem dX9_count_156 : decode cX9_count 156 = .ok (.iload_n 2, 1) := dq_28 (by decide +kernel)
theorem dX9_count_157 : decode cX9_count 157 = .ok (.ireturn, 1) := dq_172 (by decide +kernel)
theorem dX9_count_158 : decode cX9_count 158 = .ok (.aload_n 0, 1) := dq_42 (by decide +kernel)
theorem dX9_count_159 : decode cX9_count 159 = .ok (.getfield 406, 3) := dq_180 (by decide +kernel)
theorem dX9_count_162 : decode cX9_count 162 = .ok (.ireturn, 1) := dq_172 (by decide +kernel)
theorem dX9_count_163 : decode cX9_count 163 = .ok (.iconst (-1), 1) := dq_2 (by decide +kernel)
theorem dX9_count_164 : decode cX9_count 164 = .ok (.ireturn, 1) := dq_172 (by decide +kernel)
theorem dX9_days_0 : decode cX9_days 0 = .ok (.iload_n 1, 1) := dq_27 (by decide +kernel)
theorem dX9_days_1 : decode cX9_days 1 = .ok (.iconst 1, 1) := dq_4 (by decide +kernel)
theorem dX9_days_2 : decode cX9_days 2 = .ok (.bipush 100, 2) := dq_16 (by decide +kernel)
theorem dX9_days_4 : decode cX9_days 4 = .ok (.invokestatic 148, 3) := dq_184 (by decide +kernel)
theorem dX9_days_7 : decode cX9_days 7 = .ok (.ifCond .eq 15, 3) := dq_153 (by decide +kernel)
theorem dX9_days_10 : decode cX9_days 10 = .ok (.aload_n 0, 1) := dq_42 (by decide +kernel)
theorem dX9_days_11 : decode cX9_days 11 = .ok (.getfield 156, 3) := dq_180 (by decide +kernel)
theorem dX9_days_14 : decode cX9_days 14 = .ok (.iload_n 1, 1) := dq_27 (by decide +kernel)
theorem dX9_days_15 : decode cX9_days 15 = .ok (.iadd, 1) := dq_96 (by decide +kernel)
theorem dX9_days_16 : decode cX9_days 16 = .ok (.sipush 399, 3) := dq_17 (by decide +kernel)
theorem dX9_days_19 : decode cX9_days 19 = .ok (.if_icmp .le 5, 3) := dq_164 (by decide +kernel)
theorem dX9_days_22 : decode cX9_days 22 = .ok (.iconst (-1), 1) := dq_2 (by decide +kernel)
theorem dX9_days_23 : decode cX9_days 23 = .ok (.ireturn, 1) := dq_172 (by decide +kernel)
theorem dX9_days_24 : decode cX9_days 24 = .ok (.iconst 0, 1) := dq_3 (by decide +kernel)
theorem dX9_days_25 : decode cX9_days 25 = .ok (.istore_n 2, 1) := dq_61 (by decide +kernel)
theorem dX9_days_26 : decode cX9_days 26 = .ok (.iload_n 2, 1) := dq_28 (by decide +kernel)
theorem dX9_days_27 : decode cX9_days 27 = .ok (.iload_n 1, 1) := dq_27 (by decide +kernel)
theorem dX9_days_28 : decode cX9_days 28 = .ok (.if_icmp .ge 65, 3) := dq_162 (by decide +kernel)
theorem dX9_days_31 : decode cX9_days 31 = .ok (.iconst 0, 1) := dq_3 (by decide +kernel)
theorem dX9_days_32 : decode cX9_days 32 = .ok (.istore_n 3, 1) := dq_62 (by decide +kernel)
theorem dX9_days_33 : decode cX9_days 33 = .ok (.iload_n 3, 1) := dq_29 (by decide +kernel)
theorem dX9_days_34 : decode cX9_days 34 = .ok (.bipush 16, 2) := dq_16 (by decide +kernel)
theorem dX9_days_36 : decode cX9_days 36 = .ok (.if_icmp .ge 41, 3) := dq_162 (by decide +kernel)
theorem dX9_days_39 : decode cX9_days 39 = .ok (.aload_n 0, 1) := dq_42 (by decide +kernel)
theorem dX9_days_40 : decode cX9_days 40 = .ok (.getfield 39, 3) := dq_180 (by decide +kernel)
theorem dX9_days_43 : decode cX9_days 43 = .ok (.sipush 400, 3) := dq_17 (by decide +kernel)
theorem dX9_days_46 : decode cX9_days 46 = .ok (.iload_n 3, 1) := dq_29 (by decide +kernel)
theorem dX9_days_47 : decode cX9_days 47 = .ok (.imul, 1) := dq_104 (by decide +kernel)
theorem dX9_days_48 : decode cX9_days 48 = .ok (.aload_n 0, 1) := dq_42 (by decide +kernel)
theorem dX9_days_49 : decode cX9_days 49 = .ok (.getfield 156, 3) := dq_180 (by decide +kernel)
theorem dX9_days_52 : decode cX9_days 52 = .ok (.iadd, 1) := dq_96 (by decide +kernel)
theorem dX9_days_53 : decode cX9_days 53 = .ok (.iconst 1, 1) := dq_4 (by decide +kernel)
theorem dX9_days_54 : decode cX9_days 54 = .ok (.iadd, 1) := dq_96 (by decide +kernel)
theorem dX9_days_55 : decode cX9_days 55 = .ok (.aload_n 0, 1) := dq_42 (by decide +kernel)
theorem dX9_days_56 : decode cX9_days 56 = .ok (.getfield 39, 3) := dq_180 (by decide +kernel)
theorem dX9_days_59 : decode cX9_days 59 = .ok (.sipush 400, 3) := dq_17 (by decide +kernel)
theorem dX9_days_62 : decode cX9_days 62 = .ok (.iload_n 3, 1) := dq_29 (by decide +kernel)
theorem dX9_days_63 : decode cX9_days 63 = .ok (.imul, 1) := dq_104 (by decide +kernel)
theorem dX9_days_64 : decode cX9_days 64 = .ok (.aload_n 0, 1) := dq_42 (by decide +kernel)
theorem dX9_days_65 : decode cX9_days 65 = .ok (.getfield 156, 3) := dq_180 (by decide +kernel)
theorem dX9_days_68 : decode cX9_days 68 = .ok (.iadd, 1) := dq_96 (by decide +kernel)
theorem dX9_days_69 : decode cX9_days 69 = .ok (.iaload, 1) := dq_46 (by decide +kernel)
theorem dX9_days_70 : decode cX9_days 70 = .ok (.iastore, 1) := dq_79 (by decide +kernel)
theorem dX9_days_71 : decode cX9_days 71 = .ok (.iinc 3 1, 3) := dq_132 (by decide +kernel)
theorem dX9_days_74 : decode cX9_days 74 = .ok (.goto (-41), 3) := dq_167 (by decide +kernel)
theorem dX9_days_77 : decode cX9_days 77 = .ok (.aload_n 0, 1) := dq_42 (by decide +kernel)
theorem dX9_days_78 : decode cX9_days 78 = .ok (.dup, 1) := dq_89 (by decide +kernel)
theorem dX9_days_79 : decode cX9_days 79 = .ok (.getfield 156, 3) := dq_180 (by decide +kernel)
theorem dX9_days_82 : decode cX9_days 82 = .ok (.iconst 1, 1) := dq_4 (by decide +kernel)
theorem dX9_days_83 : decode cX9_days 83 = .ok (.iadd, 1) := dq_96 (by decide +kernel)
theorem dX9_days_84 : decode cX9_days 84 = .ok (.putfield 156, 3) := dq_181 (by decide +kernel)
theorem dX9_days_87 : decode cX9_days 87 = .ok (.iinc 2 1, 3) := dq_132 (by decide +kernel)
theorem dX9_days_90 : decode cX9_days 90 = .ok (.goto (-64), 3) := dq_167 (by decide +kernel)
theorem dX9_days_93 : decode cX9_days 93 = .ok (.aload_n 0, 1) := dq_42 (by decide +kernel)
theorem dX9_days_94 : decode cX9_days 94 = .ok (.getfield 156, 3) := dq_180 (by decide +kernel)
theorem dX9_days_97 : decode cX9_days 97 = .ok (.ireturn, 1) := dq_172 (by decide +kernel)
theorem dX9_deal_0 : decode cX9_deal 0 = .ok (.iload_n 1, 1) := dq_27 (by decide +kernel)
theorem dX9_deal_1 : decode cX9_deal 1 = .ok (.iconst 1, 1) := dq_4 (by decide +kernel)
theorem dX9_deal_2 : decode cX9_deal 2 = .ok (.sipush 400, 3) := dq_17 (by decide +kernel)
theorem dX9_deal_5 : decode cX9_deal 5 = .ok (.invokestatic 148, 3) := dq_184 (by decide +kernel)
theorem dX9_deal_8 : decode cX9_deal 8 = .ok (.ifCond .eq 33, 3) := dq_153 (by decide +kernel)
theorem dX9_deal_11 : decode cX9_deal 11 = .ok (.iload_n 2, 1) := dq_28 (by decide +kernel)
theorem dX9_deal_12 : decode cX9_deal 12 = .ok (.iconst 0, 1) := dq_3 (by decide +kernel)
theorem dX9_deal_13 : decode cX9_deal 13 = .ok (.sipush 400, 3) := dq_17 (by decide +kernel)
theorem dX9_deal_16 : decode cX9_deal 16 = .ok (.invokestatic 148, 3) := dq_184 (by decide +kernel)
theorem dX9_deal_19 : decode cX9_deal 19 = .ok (.ifCond .eq 22, 3) := dq_153 (by decide +kernel)
theorem dX9_deal_22 : decode cX9_deal 22 = .ok (.iload_n 3, 1) := dq_29 (by decide +kernel)
theorem dX9_deal_23 : decode cX9_deal 23 = .ok (.iconst 0, 1) := dq_3 (by decide +kernel)
theorem dX9_deal_24 : decode cX9_deal 24 = .ok (.sipush 400, 3) := dq_17 (by decide +kernel)
theorem dX9_deal_27 : decode cX9_deal 27 = .ok (.invokestatic 148, 3) := dq_184 (by decide +kernel)
theorem dX9_deal_30 : decode cX9_deal 30 = .ok (.ifCond .eq 11, 3) := dq_153 (by decide +kernel)
theorem dX9_deal_33 : decode cX9_deal 33 = .ok (.iload_n 2, 1) := dq_28 (by decide +kernel)
theorem dX9_deal_34 : decode cX9_deal 34 = .ok (.ifCond .ne 9, 3) := dq_154 (by decide +kernel)
theorem dX9_deal_37 : decode cX9_deal 37 = .ok (.iload_n 3, 1) := dq_29 (by decide +kernel)
theorem dX9_deal_38 : decode cX9_deal 38 = .ok (.ifCond .le 5, 3) := dq_158 (by decide +kernel)
theorem dX9_deal_41 : decode cX9_deal 41 = .ok (.iconst (-1), 1) := dq_2 (by decide +kernel)
theorem dX9_deal_42 : decode cX9_deal 42 = .ok (.ireturn, 1) := dq_172 (by decide +kernel)
theorem dX9_deal_43 : decode cX9_deal 43 = .ok (.iload_n 2, 1) := dq_28 (by decide +kernel)
theorem dX9_deal_44 : decode cX9_deal 44 = .ok (.ifCond .ne 7, 3) := dq_154 (by decide +kernel)
theorem dX9_deal_47 : decode cX9_deal 47 = .ok (.iconst 1, 1) := dq_4 (by decide +kernel)
theorem dX9_deal_48 : decode cX9_deal 48 = .ok (.goto 12, 3) := dq_167 (by decide +kernel)
theorem dX9_deal_51 : decode cX9_deal 51 = .ok (.iload_n 3, 1) := dq_29 (by decide +kernel)
theorem dX9_deal_52 : decode cX9_deal 52 = .ok (.ifCond .ne 7, 3) := dq_154 (by decide +kernel)
theorem dX9_deal_55 : decode cX9_deal 55 = .ok (.iconst 2, 1) := dq_5 (by decide +kernel)
theorem dX9_deal_56 : decode cX9_deal 56 = .ok (.goto 4, 3) := dq_167 (by decide +kernel)
theorem dX9_deal_59 : decode cX9_deal 59 = .ok (.iconst 3, 1) := dq_6 (by decide +kernel)
theorem dX9_deal_60 : decode cX9_deal 60 = .ok (.istore 4, 2) := dq_54 (by decide +kernel)
theorem dX9_deal_62 : decode cX9_deal 62 = .ok (.aload_n 0, 1) := dq_42 (by decide +kernel)
theorem dX9_deal_63 : decode cX9_deal 63 = .ok (.getfield 406, 3) := dq_180 (by decide +kernel)
theorem dX9_deal_66 : decode cX9_deal 66 = .ok (.iconst 3, 1) := dq_6 (by decide +kernel)
theorem dX9_deal_67 : decode cX9_deal 67 = .ok (.iload 4, 2) := dq_21 (by decide +kernel)
theorem dX9_deal_69 : decode cX9_deal 69 = .ok (.imul, 1) := dq_104 (by decide +kernel)
theorem dX9_deal_70 : decode cX9_deal 70 = .ok (.if_icmp .ge 6, 3) := dq_162 (by decide +kernel)
theorem dX9_deal_73 : decode cX9_deal 73 = .ok (.bipush (-4), 2) := dq_16 (by decide +kernel)
theorem dX9_deal_75 : decode cX9_deal 75 = .ok (.ireturn, 1) := dq_172 (by decide +kernel)
theorem dX9_deal_76 : decode cX9_deal 76 = .ok (.aload_n 0, 1) := dq_42 (by decide +kernel)
theorem dX9_deal_77 : decode cX9_deal 77 = .ok (.getfield 142, 3) := dq_180 (by decide +kernel)
theorem dX9_deal_80 : decode cX9_deal 80 = .ok (.iconst 0, 1) := dq_3 (by decide +kernel)
theorem dX9_deal_81 : decode cX9_deal 81 = .ok (.iload_n 1, 1) := dq_27 (by decide +kernel)
theorem dX9_deal_82 : decode cX9_deal 82 = .ok (.iastore, 1) := dq_79 (by decide +kernel)
theorem dX9_deal_83 : decode cX9_deal 83 = .ok (.aload_n 0, 1) := dq_42 (by decide +kernel)
theorem dX9_deal_84 : decode cX9_deal 84 = .ok (.getfield 142, 3) := dq_180 (by decide +kernel)
theorem dX9_deal_87 : decode cX9_deal 87 = .ok (.iconst 1, 1) := dq_4 (by decide +kernel)
theorem dX9_deal_88 : decode cX9_deal 88 = .ok (.iload_n 2, 1) := dq_28 (by decide +kernel)
theorem dX9_deal_89 : decode cX9_deal 89 = .ok (.iastore, 1) := dq_79 (by decide +kernel)
theorem dX9_deal_90 : decode cX9_deal 90 = .ok (.aload_n 0, 1) := dq_42 (by decide +kernel)
theorem dX9_deal_91 : decode cX9_deal 91 = .ok (.getfield 142, 3) := dq_180 (by decide +kernel)
theorem dX9_deal_94 : decode cX9_deal 94 = .ok (.iconst 2, 1) := dq_5 (by decide +kernel)
theorem dX9_deal_95 : decode cX9_deal 95 = .ok (.iload_n 3, 1) := dq_29 (by decide +kernel)
theorem dX9_deal_96 : decode cX9_deal 96 = .ok (.iastore, 1) := dq_79 (by decide +kernel)
theorem dX9_deal_97 : decode cX9_deal 97 = .ok (.iconst (-1), 1) := dq_2 (by decide +kernel)
theorem dX9_deal_98 : decode cX9_deal 98 = .ok (.istore 5, 2) := dq_54 (by decide +kernel)
theorem dX9_deal_100 : decode cX9_deal 100 = .ok (.iconst 0, 1) := dq_3 (by decide +kernel)
theorem dX9_deal_101 : decode cX9_deal 101 = .ok (.istore 6, 2) := dq_54 (by decide +kernel)
theorem dX9_deal_103 : decode cX9_deal 103 = .ok (.iload 6, 2) := dq_21 (by decide +kernel)
theorem dX9_deal_105 : decode cX9_deal 105 = .ok (.aload_n 0, 1) := dq_42 (by decide +kernel)
theorem dX9_deal_106 : decode cX9_deal 106 = .ok (.getfield 406, 3) := dq_180 (by decide +kernel)
theorem dX9_deal_109 : decode cX9_deal 109 = .ok (.if_icmp .ge 17, 3) := dq_162 (by decide +kernel)
theorem dX9_deal_112 : decode cX9_deal 112 = .ok (.aload_n 0, 1) := dq_42 (by decide +kernel)
theorem dX9_deal_113 : decode cX9_deal 113 = .ok (.getfield 139, 3) := dq_180 (by decide +kernel)
theorem dX9_deal_116 : decode cX9_deal 116 = .ok (.iload 6, 2) := dq_21 (by decide +kernel)
theorem dX9_deal_118 : decode cX9_deal 118 = .ok (.iconst 0, 1) := dq_3 (by decide +kernel)
theorem dX9_deal_119 : decode cX9_deal 119 = .ok (.iastore, 1) := dq_79 (by decide +kernel)
theorem dX9_deal_120 : decode cX9_deal 120 = .ok (.iinc 6 1, 3) := dq_132 (by decide +kernel)
theorem dX9_deal_123 : decode cX9_deal 123 = .ok (.goto (-20), 3) := dq_167 (by decide +kernel)
theorem dX9_deal_126 : decode cX9_deal 126 = .ok (.iconst 1, 1) := dq_4 (by decide +kernel)
theorem dX9_deal_127 : decode cX9_deal 127 = .ok (.istore 6, 2) := dq_54 (by decide +kernel)
theorem dX9_deal_129 : decode cX9_deal 129 = .ok (.iload 6, 2) := dq_21 (by decide +kernel)
theorem dX9_deal_131 : decode cX9_deal 131 = .ok (.ifCond .eq 188, 3) := dq_153 (by decide +kernel)
theorem dX9_deal_134 : decode cX9_deal 134 = .ok (.aload_n 0, 1) := dq_42 (by decide +kernel)
theorem dX9_deal_135 : decode cX9_deal 135 = .ok (.iload 4, 2) := dq_21 (by decide +kernel)
theorem dX9_deal_137 : decode cX9_deal 137 = .ok (.invokevirtual 409, 3) := dq_182 (by decide +kernel)
theorem dX9_deal_140 : decode cX9_deal 140 = .ok (.ifCond .eq 110, 3) := dq_153 (by decide +kernel)
theorem dX9_deal_143 : decode cX9_deal 143 = .ok (.iconst 0, 1) := dq_3 (by decide +kernel)
theorem dX9_deal_144 : decode cX9_deal 144 = .ok (.istore 7, 2) := dq_54 (by decide +kernel)
theorem dX9_deal_146 : decode cX9_deal 146 = .ok (.iconst 0, 1) := dq_3 (by decide +kernel)
theorem dX9_deal_147 : decode cX9_deal 147 = .ok (.istore 8, 2) := dq_54 (by decide +kernel)
theorem dX9_deal_149 : decode cX9_deal 149 = .ok (.iload 8, 2) := dq_21 (by decide +kernel)
theorem dX9_deal_151 : decode cX9_deal 151 = .ok (.iload 4, 2) := dq_21 (by decide +kernel)
theorem dX9_deal_153 : decode cX9_deal 153 = .ok (.if_icmp .ge 49, 3) := dq_162 (by decide +kernel)
theorem dX9_deal_156 : decode cX9_deal 156 = .ok (.aload_n 0, 1) := dq_42 (by decide +kernel)
theorem dX9_deal_157 : decode cX9_deal 157 = .ok (.getfield 142, 3) := dq_180 (by decide +kernel)
theorem dX9_deal_160 : decode cX9_deal 160 = .ok (.iload 8, 2) := dq_21 (by decide +kernel)
theorem dX9_deal_162 : decode cX9_deal 162 = .ok (.iaload, 1) := dq_46 (by decide +kernel)
theorem dX9_deal_163 : decode cX9_deal 163 = .ok (.aload_n 0, 1) := dq_42 (by decide +kernel)
theorem dX9_deal_164 : decode cX9_deal 164 = .ok (.iload 8, 2) := dq_21 (by decide +kernel)
theorem dX9_deal_166 : decode cX9_deal 166 = .ok (.invokevirtual 412, 3) := dq_182 (by decide +kernel)
theorem dX9_deal_169 : decode cX9_deal 169 = .ok (.imul, 1) := dq_104 (by decide +kernel)
theorem dX9_deal_170 : decode cX9_deal 170 = .ok (.iload 7, 2) := dq_21 (by decide +kernel)
theorem dX9_deal_172 : decode cX9_deal 172 = .ok (.if_icmp .le 20, 3) := dq_164 (by decide +kernel)
theorem dX9_deal_175 : decode cX9_deal 175 = .ok (.aload_n 0, 1) := dq_42 (by decide +kernel)
theorem dX9_deal_176 : decode cX9_deal 176 = .ok (.getfield 142, 3) := dq_180 (by decide +kernel)
theorem dX9_deal_179 : decode cX9_deal 179 = .ok (.iload 8, 2) := dq_21 (by decide +kernel)
theorem dX9_deal_181 : decode cX9_deal 181 = .ok (.iaload, 1) := dq_46 (by decide +kernel)
theorem dX9_deal_182 : decode cX9_deal 182 = .ok (.aload_n 0, 1) := dq_42 (by decide +kernel)
theorem dX9_deal_183 : decode cX9_deal 183 = .ok (.iload 8, 2) := dq_21 (by decide +kernel)
theorem dX9_deal_185 : decode cX9_deal 185 = .ok (.invokevirtual 412, 3) := dq_182 (by decide +kernel)
theorem dX9_deal_188 : decode cX9_deal 188 = .ok (.imul, 1) := dq_104 (by decide +kernel)
theorem dX9_deal_189 : decode cX9_deal 189 = .ok (.goto 5, 3) := dq_167 (by decide +kernel)
theorem dX9_deal_192 : decode cX9_deal 192 = .ok (.iload 7, 2) := dq_21 (by decide +kernel)
theorem dX9_deal_194 : decode cX9_deal 194 = .ok (.istore 7, 2) := dq_54 (by decide +kernel)
theorem dX9_deal_196 : decode cX9_deal 196 = .ok (.iinc 8 1, 3) := dq_132 (by decide +kernel)
theorem dX9_deal_199 : decode cX9_deal 199 = .ok (.goto (-50), 3) := dq_167 (by decide +kernel)
theorem dX9_deal_202 : decode cX9_deal 202 = .ok (.iload 5, 2) := dq_21 (by decide +kernel)
theorem dX9_deal_204 : decode cX9_deal 204 = .ok (.ifCond .lt 10, 3) := dq_155 (by decide +kernel)
theorem dX9_deal_207 : decode cX9_deal 207 = .ok (.iload 7, 2) := dq_21 (by decide +kernel)
theorem dX9_deal_209 : decode cX9_deal 209 = .ok (.iload 5, 2) := dq_21 (by decide +kernel)
theorem dX9_deal_211 : decode cX9_deal 211 = .ok (.if_icmp .ge 39, 3) := dq_162 (by decide +kernel)
theorem dX9_deal_214 : decode cX9_deal 214 = .ok (.iload 7, 2) := dq_21 (by decide +kernel)
theorem dX9_deal_216 : decode cX9_deal 216 = .ok (.istore 5, 2) := dq_54 (by decide +kernel)
theorem dX9_deal_218 : decode cX9_deal 218 = .ok (.iconst 0, 1) := dq_3 (by decide +kernel)
theorem dX9_deal_219 : decode cX9_deal 219 = .ok (.istore 8, 2) := dq_54 (by decide +kernel)
theorem dX9_deal_221 : decode cX9_deal 221 = .ok (.iload 8, 2) := dq_21 (by decide +kernel)
theorem dX9_deal_223 : decode cX9_deal 223 = .ok (.aload_n 0, 1) := dq_42 (by decide +kernel)
theorem dX9_deal_224 : decode cX9_deal 224 = .ok (.getfield 406, 3) := dq_180 (by decide +kernel)
theorem dX9_deal_227 : decode cX9_deal 227 = .ok (.if_icmp .ge 23, 3) := dq_162 (by decide +kernel)
theorem dX9_deal_230 : decode cX9_deal 230 = .ok (.aload_n 0, 1) := dq_42 (by decide +kernel)
theorem dX9_deal_231 : decode cX9_deal 231 = .ok (.getfield 136, 3) := dq_180 (by decide +kernel)
theorem dX9_deal_234 : decode cX9_deal 234 = .ok (.iload 8, 2) := dq_21 (by decide +kernel)
theorem dX9_deal_236 : decode cX9_deal 236 = .ok (.aload_n 0, 1) := dq_42 (by decide +kernel)
theorem dX9_deal_237 : decode cX9_deal 237 = .ok (.getfield 139, 3) := dq_180 (by decide +kernel)
theorem dX9_deal_240 : decode cX9_deal 240 = .ok (.iload 8, 2) := dq_21 (by decide +kernel)
theorem dX9_deal_242 : decode cX9_deal 242 = .ok (.iaload, 1) := dq_46 (by decide +kernel)
theorem dX9_deal_243 : decode cX9_deal 243 = .ok (.iastore, 1) := dq_79 (by decide +kernel)
theorem dX9_deal_244 : decode cX9_deal 244 = .ok (.iinc 8 1, 3) := dq_132 (by decide +kernel)
theorem dX9_deal_247 : decode cX9_deal 247 = .ok (.goto (-26), 3) := dq_167 (by decide +kernel)
theorem dX9_deal_250 : decode cX9_deal 250 = .ok (.aload_n 0, 1) := dq_42 (by decide +kernel)
theorem dX9_deal_251 : decode cX9_deal 251 = .ok (.getfield 406, 3) := dq_180 (by decide +kernel)
theorem dX9_deal_254 : decode cX9_deal 254 = .ok (.iconst 1, 1) := dq_4 (by decide +kernel)
theorem dX9_deal_255 : decode cX9_deal 255 = .ok (.isub, 1) := dq_100 (by decide +kernel)
theorem dX9_deal_256 : decode cX9_deal 256 = .ok (.istore 7, 2) := dq_54 (by decide +kernel)
theorem dX9_deal_258 : decode cX9_deal 258 = .ok (.iload 7, 2) := dq_21 (by decide +kernel)
theorem dX9_deal_260 : decode cX9_deal 260 = .ok (.ifCond .lt 28, 3) := dq_155 (by decide +kernel)
theorem dX9_deal_263 : decode cX9_deal 263 = .ok (.aload_n 0, 1) := dq_42 (by decide +kernel)
theorem dX9_deal_264 : decode cX9_deal 264 = .ok (.getfield 139, 3) := dq_180 (by decide +kernel)
theorem dX9_deal_267 : decode cX9_deal 267 = .ok (.iload 7, 2) := dq_21 (by decide +kernel)
theorem dX9_deal_269 : decode cX9_deal 269 = .ok (.iaload, 1) := dq_46 (by decide +kernel)
theorem dX9_deal_270 : decode cX9_deal 270 = .ok (.iconst 3, 1) := dq_6 (by decide +kernel)
theorem dX9_deal_271 : decode cX9_deal 271 = .ok (.if_icmp .ne 17, 3) := dq_160 (by decide +kernel)
theorem dX9_deal_274 : decode cX9_deal 274 = .ok (.aload_n 0, 1) := dq_42 (by decide +kernel)
theorem dX9_deal_275 : decode cX9_deal 275 = .ok (.getfield 139, 3) := dq_180 (by decide +kernel)
theorem dX9_deal_278 : decode cX9_deal 278 = .ok (.iload 7, 2) := dq_21 (by decide +kernel)
theorem dX9_deal_280 : decode cX9_deal 280 = .ok (.iconst 0, 1) := dq_3 (by decide +kernel)
theorem dX9_deal_281 : decode cX9_deal 281 = .ok (.iastore, 1) := dq_79 (by decide +kernel)
theorem dX9_deal_282 : decode cX9_deal 282 = .ok (.iinc 7 (-1), 3) := dq_132 (by decide +kernel)
theorem dX9_deal_285 : decode cX9_deal 285 = .ok (.goto (-27), 3) := dq_167 (by decide +kernel)
theorem dX9_deal_288 : decode cX9_deal 288 = .ok (.iload 7, 2) := dq_21 (by decide +kernel)
theorem dX9_deal_290 : decode cX9_deal 290 = .ok (.ifCond .lt 7, 3) := dq_155 (by decide +kernel)
theorem dX9_deal_293 : decode cX9_deal 293 = .ok (.iconst 1, 1) := dq_4 (by decide +kernel)
theorem dX9_deal_294 : decode cX9_deal 294 = .ok (.goto 4, 3) := dq_167 (by decide +kernel)
theorem dX9_deal_297 : decode cX9_deal 297 = .ok (.iconst 0, 1) := dq_3 (by decide +kernel)
theorem dX9_deal_298 : decode cX9_deal 298 = .ok (.istore 6, 2) := dq_54 (by decide +kernel)
theorem dX9_deal_300 : decode cX9_deal 300 = .ok (.iload 6, 2) := dq_21 (by decide +kernel)
theorem dX9_deal_302 : decode cX9_deal 302 = .ok (.ifCond .eq 14, 3) := dq_153 (by decide +kernel)
theorem dX9_deal_305 : decode cX9_deal 305 = .ok (.aload_n 0, 1) := dq_42 (by decide +kernel)
theorem dX9_deal_306 : decode cX9_deal 306 = .ok (.getfield 139, 3) := dq_180 (by decide +kernel)
theorem dX9_deal_309 : decode cX9_deal 309 = .ok (.iload 7, 2) := dq_21 (by decide +kernel)
theorem dX9_deal_311 : decode cX9_deal 311 = .ok (.dup2, 1) := dq_92 (by decide +kernel)
theorem dX9_deal_312 : decode cX9_deal 312 = .ok (.iaload, 1) := dq_46 (by decide +kernel)
theorem dX9_deal_313 : decode cX9_deal 313 = .ok (.iconst 1, 1) := dq_4 (by decide +kernel)
theorem dX9_deal_314 : decode cX9_deal 314 = .ok (.iadd, 1) := dq_96 (by decide +kernel)
theorem dX9_deal_315 : decode cX9_deal 315 = .ok (.iastore, 1) := dq_79 (by decide +kernel)
theorem dX9_deal_316 : decode cX9_deal 316 = .ok (.goto (-187), 3) := dq_167 (by decide +kernel)
theorem dX9_deal_319 : decode cX9_deal 319 = .ok (.aload_n 0, 1) := dq_42 (by decide +kernel)
theorem dX9_deal_320 : decode cX9_deal 320 = .ok (.aload_n 0, 1) := dq_42 (by decide +kernel)
theorem dX9_deal_321 : decode cX9_deal 321 = .ok (.getfield 406, 3) := dq_180 (by decide +kernel)
theorem dX9_deal_324 : decode cX9_deal 324 = .ok (.putfield 415, 3) := dq_181 (by decide +kernel)
theorem dX9_deal_327 : decode cX9_deal 327 = .ok (.aload_n 0, 1) := dq_42 (by decide +kernel)
theorem dX9_deal_328 : decode cX9_deal 328 = .ok (.iconst 0, 1) := dq_3 (by decide +kernel)
theorem dX9_deal_329 : decode cX9_deal 329 = .ok (.putfield 406, 3) := dq_181 (by decide +kernel)
theorem dX9_deal_332 : decode cX9_deal 332 = .ok (.iload 5, 2) := dq_21 (by decide +kernel)
theorem dX9_deal_334 : decode cX9_deal 334 = .ok (.ireturn, 1) := dq_172 (by decide +kernel)
theorem dX9_dealt_0 : decode cX9_dealt 0 = .ok (.iload_n 1, 1) := dq_27 (by decide +kernel)
theorem dX9_dealt_1 : decode cX9_dealt 1 = .ok (.iconst 0, 1) := dq_3 (by decide +kernel)
theorem dX9_dealt_2 : decode cX9_dealt 2 = .ok (.aload_n 0, 1) := dq_42 (by decide +kernel)
theorem dX9_dealt_3 : decode cX9_dealt 3 = .ok (.getfield 415, 3) := dq_180 (by decide +kernel)
theorem dX9_dealt_6 : decode cX9_dealt 6 = .ok (.iconst 1, 1) := dq_4 (by decide +kernel)
theorem dX9_dealt_7 : decode cX9_dealt 7 = .ok (.isub, 1) := dq_100 (by decide +kernel)
theorem dX9_dealt_8 : decode cX9_dealt 8 = .ok (.invokestatic 148, 3) := dq_184 (by decide +kernel)
theorem dX9_dealt_11 : decode cX9_dealt 11 = .ok (.ifCond .ne 8, 3) := dq_154 (by decide +kernel)
theorem dX9_dealt_14 : decode cX9_dealt 14 = .ok (.ldc 169, 2) := dq_18 (by decide +kernel)
theorem dX9_dealt_16 : decode cX9_dealt 16 = .ok (.goto 23, 3) := dq_167 (by decide +kernel)
theorem dX9_dealt_19 : decode cX9_dealt 19 = .ok (.aload_n 0, 1) := dq_42 (by decide +kernel)
theorem dX9_dealt_20 : decode cX9_dealt 20 = .ok (.getfield 136, 3) := dq_180 (by decide +kernel)
theorem dX9_dealt_23 : decode cX9_dealt 23 = .ok (.iload_n 1, 1) := dq_27 (by decide +kernel)
theorem dX9_dealt_24 : decode cX9_dealt 24 = .ok (.iaload, 1) := dq_46 (by decide +kernel)
theorem dX9_dealt_25 : decode cX9_dealt 25 = .ok (.iconst 3, 1) := dq_6 (by decide +kernel)
theorem dX9_dealt_26 : decode cX9_dealt 26 = .ok (.if_icmp .ne 7, 3) := dq_160 (by decide +kernel)
theorem dX9_dealt_29 : decode cX9_dealt 29 = .ok (.iconst (-1), 1) := dq_2 (by decide +kernel)
theorem dX9_dealt_30 : decode cX9_dealt 30 = .ok (.goto 9, 3) := dq_167 (by decide +kernel)
theorem dX9_dealt_33 : decode cX9_dealt 33 = .ok (.aload_n 0, 1) := dq_42 (by decide +kernel)
theorem dX9_dealt_34 : decode cX9_dealt 34 = .ok (.getfield 136, 3) := dq_180 (by decide +kernel)
theorem dX9_dealt_37 : decode cX9_dealt 37 = .ok (.iload_n 1, 1) := dq_27 (by decide +kernel)
theorem dX9_dealt_38 : decode cX9_dealt 38 = .ok (.iaload, 1) := dq_46 (by decide +kernel)
theorem dX9_dealt_39 : decode cX9_dealt 39 = .ok (.ireturn, 1) := dq_172 (by decide +kernel)
theorem dX9_done_0 : decode cX9_done 0 = .ok (.aload_n 0, 1) := dq_42 (by decide +kernel)
theorem dX9_done_1 : decode cX9_done 1 = .ok (.getfield 351, 3) := dq_180 (by decide +kernel)
theorem dX9_done_4 : decode cX9_done 4 = .ok (.ifCond .le 48, 3) := dq_158 (by decide +kernel)
theorem dX9_done_7 : decode cX9_done 7 = .ok (.aload_n 0, 1) := dq_42 (by decide +kernel)
theorem dX9_done_8 : decode cX9_done 8 = .ok (.getfield 82, 3) := dq_180 (by decide +kernel)
theorem dX9_done_11 : decode cX9_done 11 = .ok (.aload_n 0, 1) := dq_42 (by decide +kernel)
theorem dX9_done_12 : decode cX9_done 12 = .ok (.getfield 351, 3) := dq_180 (by decide +kernel)
theorem dX9_done_15 : decode cX9_done 15 = .ok (.iconst 1, 1) := dq_4 (by decide +kernel)
theorem dX9_done_16 : decode cX9_done 16 = .ok (.isub, 1) := dq_100 (by decide +kernel)
theorem dX9_done_17 : decode cX9_done 17 = .ok (.iaload, 1) := dq_46 (by decide +kernel)
theorem dX9_done_18 : decode cX9_done 18 = .ok (.invokestatic 354, 3) := dq_184 (by decide +kernel)
theorem dX9_done_21 : decode cX9_done 21 = .ok (.iload_n 1, 1) := dq_27 (by decide +kernel)
theorem dX9_done_22 : decode cX9_done 22 = .ok (.if_icmp .lt 30, 3) := dq_161 (by decide +kernel)
theorem dX9_done_25 : decode cX9_done 25 = .ok (.aload_n 0, 1) := dq_42 (by decide +kernel)
theorem dX9_done_26 : decode cX9_done 26 = .ok (.dup, 1) := dq_89 (by decide +kernel)
theorem dX9_done_27 : decode cX9_done 27 = .ok (.getfield 351, 3) := dq_180 (by decide +kernel)
theorem dX9_done_30 : decode cX9_done 30 = .ok (.iconst 1, 1) := dq_4 (by decide +kernel)
theorem dX9_done_31 : decode cX9_done 31 = .ok (.isub, 1) := dq_100 (by decide +kernel)
theorem dX9_done_32 : decode cX9_done 32 = .ok (.putfield 351, 3) := dq_181 (by decide +kernel)
theorem dX9_done_35 : decode cX9_done 35 = .ok (.aload_n 0, 1) := dq_42 (by decide +kernel)
theorem dX9_done_36 : decode cX9_done 36 = .ok (.aload_n 0, 1) := dq_42 (by decide +kernel)
theorem dX9_done_37 : decode cX9_done 37 = .ok (.getfield 82, 3) := dq_180 (by decide +kernel)
theorem dX9_done_40 : decode cX9_done 40 = .ok (.aload_n 0, 1) := dq_42 (by decide +kernel)
theorem dX9_done_41 : decode cX9_done 41 = .ok (.getfield 351, 3) := dq_180 (by decide +kernel)
theorem dX9_done_44 : decode cX9_done 44 = .ok (.iaload, 1) := dq_46 (by decide +kernel)
theorem dX9_done_45 : decode cX9_done 45 = .ok (.iconst 0, 1) := dq_3 (by decide +kernel)
theorem dX9_done_46 : decode cX9_done 46 = .ok (.invokevirtual 357, 3) := dq_182 (by decide +kernel)
theorem dX9_done_49 : decode cX9_done 49 = .ok (.goto (-49), 3) := dq_167 (by decide +kernel)
theorem dX9_done_52 : decode cX9_done 52 = .ok (.return_, 1) := dq_177 (by decide +kernel)
theorem dX9_doubt_0 : decode cX9_doubt 0 = .ok (.iload_n 1, 1) := dq_27 (by decide +kernel)
theorem dX9_doubt_1 : decode cX9_doubt 1 = .ok (.iconst 1, 1) := dq_4 (by decide +kernel)
theorem dX9_doubt_2 : decode cX9_doubt 2 = .ok (.sipush 9999, 3) := dq_17 (by decide +kernel)
theorem dX9_doubt_5 : decode cX9_doubt 5 = .ok (.invokestatic 148, 3) := dq_184 (by decide +kernel)
theorem dX9_doubt_8 : decode cX9_doubt 8 = .ok (.ifCond .ne 5, 3) := dq_154 (by decide +kernel)
theorem dX9_doubt_11 : decode cX9_doubt 11 = .ok (.iconst (-1), 1) := dq_2 (by decide +kernel)
theorem dX9_doubt_12 : decode cX9_doubt 12 = .ok (.ireturn, 1) := dq_172 (by decide +kernel)
theorem dX9_doubt_13 : decode cX9_doubt 13 = .ok (.aload_n 0, 1) := dq_42 (by decide +kernel)
theorem dX9_doubt_14 : decode cX9_doubt 14 = .ok (.getfield 406, 3) := dq_180 (by decide +kernel)
theorem dX9_doubt_17 : decode cX9_doubt 17 = .ok (.bipush 9, 2) := dq_16 (by decide +kernel)
theorem dX9_doubt_19 : decode cX9_doubt 19 = .ok (.if_icmp .ne 6, 3) := dq_160 (by decide +kernel)
theorem dX9_doubt_22 : decode cX9_doubt 22 = .ok (.bipush (-5), 2) := dq_16 (by decide +kernel)
theorem dX9_doubt_24 : decode cX9_doubt 24 = .ok (.ireturn, 1) := dq_172 (by decide +kernel)
theorem dX9_doubt_25 : decode cX9_doubt 25 = .ok (.aload_n 0, 1) := dq_42 (by decide +kernel)
theorem dX9_doubt_26 : decode cX9_doubt 26 = .ok (.getfield 133, 3) := dq_180 (by decide +kernel)
theorem dX9_doubt_29 : decode cX9_doubt 29 = .ok (.aload_n 0, 1) := dq_42 (by decide +kernel)
theorem dX9_doubt_30 : decode cX9_doubt 30 = .ok (.getfield 406, 3) := dq_180 (by decide +kernel)
theorem dX9_doubt_33 : decode cX9_doubt 33 = .ok (.iload_n 1, 1) := dq_27 (by decide +kernel)
theorem dX9_doubt_34 : decode cX9_doubt 34 = .ok (.iastore, 1) := dq_79 (by decide +kernel)
theorem dX9_doubt_35 : decode cX9_doubt 35 = .ok (.aload_n 0, 1) := dq_42 (by decide +kernel)
theorem dX9_doubt_36 : decode cX9_doubt 36 = .ok (.dup, 1) := dq_89 (by decide +kernel)
theorem dX9_doubt_37 : decode cX9_doubt 37 = .ok (.getfield 406, 3) := dq_180 (by decide +kernel)
theorem dX9_doubt_40 : decode cX9_doubt 40 = .ok (.iconst 1, 1) := dq_4 (by decide +kernel)
theorem dX9_doubt_41 : decode cX9_doubt 41 = .ok (.iadd, 1) := dq_96 (by decide +kernel)
theorem dX9_doubt_42 : decode cX9_doubt 42 = .ok (.putfield 406, 3) := dq_181 (by decide +kernel)
theorem dX9_doubt_45 : decode cX9_doubt 45 = .ok (.aload_n 0, 1) := dq_42 (by decide +kernel)
theorem dX9_doubt_46 : decode cX9_doubt 46 = .ok (.getfield 406, 3) := dq_180 (by decide +kernel)
theorem dX9_doubt_49 : decode cX9_doubt 49 = .ok (.ireturn, 1) := dq_172 (by decide +kernel)
theorem dX9_error_0 : decode cX9_error 0 = .ok (.aload_n 0, 1) := dq_42 (by decide +kernel)
theorem dX9_error_1 : decode cX9_error 1 = .ok (.iload_n 1, 1) := dq_27 (by decide +kernel)
theorem dX9_error_2 : decode cX9_error 2 = .ok (.invokevirtual 172, 3) := dq_182 (by decide +kernel)
theorem dX9_error_5 : decode cX9_error 5 = .ok (.ifCond .lt 17, 3) := dq_155 (by decide +kernel)
theorem dX9_error_8 : decode cX9_error 8 = .ok (.iload_n 2, 1) := dq_28 (by decide +kernel)
theorem dX9_error_9 : decode cX9_error 9 = .ok (.invokestatic 159, 3) := dq_184 (by decide +kernel)
theorem dX9_error_12 : decode cX9_error 12 = .ok (.ifCond .eq 10, 3) := dq_153 (by decide +kernel)
theorem dX9_error_15 : decode cX9_error 15 = .ok (.iload_n 3, 1) := dq_29 (by decide +kernel)
theorem dX9_error_16 : decode cX9_error 16 = .ok (.invokestatic 185, 3) := dq_184 (by decide +kernel)
theorem dX9_error_19 : decode cX9_error 19 = .ok (.ifCond .ne 8, 3) := dq_154 (by decide +kernel)
theorem dX9_error_22 : decode cX9_error 22 = .ok (.ldc 169, 2) := dq_18 (by decide +kernel)
theorem dX9_error_24 : decode cX9_error 24 = .ok (.goto 10, 3) := dq_167 (by decide +kernel)
theorem dX9_error_27 : decode cX9_error 27 = .ok (.aload_n 0, 1) := dq_42 (by decide +kernel)
theorem dX9_error_28 : decode cX9_error 28 = .ok (.iload_n 1, 1) := dq_27 (by decide +kernel)
theorem dX9_error_29 : decode cX9_error 29 = .ok (.iload_n 2, 1) := dq_28 (by decide +kernel)
theorem dX9_error_30 : decode cX9_error 30 = .ok (.iload_n 3, 1) := dq_29 (by decide +kernel)
theorem dX9_error_31 : decode cX9_error 31 = .ok (.invokevirtual 178, 3) := dq_182 (by decide +kernel)
theorem dX9_error_34 : decode cX9_error 34 = .ok (.ireturn, 1) := dq_172 (by decide +kernel)
theorem dX9_errorOf_0 : decode cX9_errorOf 0 = .ok (.sipush 400, 3) := dq_17 (by decide +kernel)
theorem dX9_errorOf_3 : decode cX9_errorOf 3 = .ok (.iload_n 1, 1) := dq_27 (by decide +kernel)
theorem dX9_errorOf_4 : decode cX9_errorOf 4 = .ok (.imul, 1) := dq_104 (by decide +kernel)
theorem dX9_errorOf_5 : decode cX9_errorOf 5 = .ok (.iload_n 2, 1) := dq_28 (by decide +kernel)
theorem dX9_errorOf_6 : decode cX9_errorOf 6 = .ok (.iadd, 1) := dq_96 (by decide +kernel)
theorem dX9_errorOf_7 : decode cX9_errorOf 7 = .ok (.istore 4, 2) := dq_54 (by decide +kernel)
theorem dX9_errorOf_9 : decode cX9_errorOf 9 = .ok (.aload_n 0, 1) := dq_42 (by decide +kernel)
theorem dX9_errorOf_10 : decode cX9_errorOf 10 = .ok (.getfield 23, 3) := dq_180 (by decide +kernel)
theorem dX9_errorOf_13 : decode cX9_errorOf 13 = .ok (.iload 4, 2) := dq_21 (by decide +kernel)
theorem dX9_errorOf_15 : decode cX9_errorOf 15 = .ok (.baload, 1) := dq_51 (by decide +kernel)
theorem dX9_errorOf_16 : decode cX9_errorOf 16 = .ok (.ifCond .ne 6, 3) := dq_154 (by decide +kernel)
theorem dX9_errorOf_19 : decode cX9_errorOf 19 = .ok (.ldc 169, 2) := dq_18 (by decide +kernel)
theorem dX9_errorOf_21 : decode cX9_errorOf 21 = .ok (.ireturn, 1) := dq_172 (by decide +kernel)
theorem dX9_errorOf_22 : decode cX9_errorOf 22 = .ok (.aload_n 0, 1) := dq_42 (by decide +kernel)
theorem dX9_errorOf_23 : decode cX9_errorOf 23 = .ok (.getfield 27, 3) := dq_180 (by decide +kernel)
theorem dX9_errorOf_26 : decode cX9_errorOf 26 = .ok (.iload 4, 2) := dq_21 (by decide +kernel)
theorem dX9_errorOf_28 : decode cX9_errorOf 28 = .ok (.iaload, 1) := dq_46 (by decide +kernel)
theorem dX9_errorOf_29 : decode cX9_errorOf 29 = .ok (.istore 5, 2) := dq_54 (by decide +kernel)
theorem dX9_errorOf_31 : decode cX9_errorOf 31 = .ok (.iconst 0, 1) := dq_3 (by decide +kernel)
theorem dX9_errorOf_32 : decode cX9_errorOf 32 = .ok (.istore 6, 2) := dq_54 (by decide +kernel)
theorem dX9_errorOf_34 : decode cX9_errorOf 34 = .ok (.iload 6, 2) := dq_21 (by decide +kernel)
theorem dX9_errorOf_36 : decode cX9_errorOf 36 = .ok (.aload_n 0, 1) := dq_42 (by decide +kernel)
theorem dX9_errorOf_37 : decode cX9_errorOf 37 = .ok (.getfield 175, 3) := dq_180 (by decide +kernel)
theorem dX9_errorOf_40 : decode cX9_errorOf 40 = .ok (.if_icmp .ge 74, 3) := dq_162 (by decide +kernel)
theorem dX9_errorOf_43 : decode cX9_errorOf 43 = .ok (.aload_n 0, 1) := dq_42 (by decide +kernel)
theorem dX9_errorOf_44 : decode cX9_errorOf 44 = .ok (.getfield 42, 3) := dq_180 (by decide +kernel)
theorem dX9_errorOf_47 : decode cX9_errorOf 47 = .ok (.iload 6, 2) := dq_21 (by decide +kernel)
theorem dX9_errorOf_49 : decode cX9_errorOf 49 = .ok (.iaload, 1) := dq_46 (by decide +kernel)
theorem dX9_errorOf_50 : decode cX9_errorOf 50 = .ok (.aload_n 0, 1) := dq_42 (by decide +kernel)
theorem dX9_errorOf_51 : decode cX9_errorOf 51 = .ok (.getfield 30, 3) := dq_180 (by decide +kernel)
theorem dX9_errorOf_54 : decode cX9_errorOf 54 = .ok (.iload 4, 2) := dq_21 (by decide +kernel)
theorem dX9_errorOf_56 : decode cX9_errorOf 56 = .ok (.iaload, 1) := dq_46 (by decide +kernel)
theorem dX9_errorOf_57 : decode cX9_errorOf 57 = .ok (.if_icmp .ne 51, 3) := dq_160 (by decide +kernel)
theorem dX9_errorOf_60 : decode cX9_errorOf 60 = .ok (.iload_n 2, 1) := dq_28 (by decide +kernel)
theorem dX9_errorOf_61 : decode cX9_errorOf 61 = .ok (.aload_n 0, 1) := dq_42 (by decide +kernel)
theorem dX9_errorOf_62 : decode cX9_errorOf 62 = .ok (.getfield 45, 3) := dq_180 (by decide +kernel)
theorem dX9_errorOf_65 : decode cX9_errorOf 65 = .ok (.iload 6, 2) := dq_21 (by decide +kernel)
theorem dX9_errorOf_67 : decode cX9_errorOf 67 = .ok (.iaload, 1) := dq_46 (by decide +kernel)
theorem dX9_errorOf_68 : decode cX9_errorOf 68 = .ok (.aload_n 0, 1) := dq_42 (by decide +kernel)
theorem dX9_errorOf_69 : decode cX9_errorOf 69 = .ok (.getfield 48, 3) := dq_180 (by decide +kernel)
theorem dX9_errorOf_72 : decode cX9_errorOf 72 = .ok (.iload 6, 2) := dq_21 (by decide +kernel)
theorem dX9_errorOf_74 : decode cX9_errorOf 74 = .ok (.iaload, 1) := dq_46 (by decide +kernel)
theorem dX9_errorOf_75 : decode cX9_errorOf 75 = .ok (.invokestatic 148, 3) := dq_184 (by decide +kernel)
theorem dX9_errorOf_78 : decode cX9_errorOf 78 = .ok (.ifCond .eq 30, 3) := dq_153 (by decide +kernel)
theorem dX9_errorOf_81 : decode cX9_errorOf 81 = .ok (.iload_n 3, 1) := dq_29 (by decide +kernel)
theorem dX9_errorOf_82 : decode cX9_errorOf 82 = .ok (.ifCond .lt 14, 3) := dq_155 (by decide +kernel)
theorem dX9_errorOf_85 : decode cX9_errorOf 85 = .ok (.aload_n 0, 1) := dq_42 (by decide +kernel)
theorem dX9_errorOf_86 : decode cX9_errorOf 86 = .ok (.getfield 54, 3) := dq_180 (by decide +kernel)
theorem dX9_errorOf_89 : decode cX9_errorOf 89 = .ok (.iload 6, 2) := dq_21 (by decide +kernel)
theorem dX9_errorOf_91 : decode cX9_errorOf 91 = .ok (.iaload, 1) := dq_46 (by decide +kernel)
theorem dX9_errorOf_92 : decode cX9_errorOf 92 = .ok (.iload_n 3, 1) := dq_29 (by decide +kernel)
theorem dX9_errorOf_93 : decode cX9_errorOf 93 = .ok (.if_icmp .gt 15, 3) := dq_163 (by decide +kernel)
theorem dX9_errorOf_96 : decode cX9_errorOf 96 = .ok (.iload 5, 2) := dq_21 (by decide +kernel)
theorem dX9_errorOf_98 : decode cX9_errorOf 98 = .ok (.aload_n 0, 1) := dq_42 (by decide +kernel)
theorem dX9_errorOf_99 : decode cX9_errorOf 99 = .ok (.getfield 51, 3) := dq_180 (by decide +kernel)
theorem dX9_errorOf_102 : decode cX9_errorOf 102 = .ok (.iload 6, 2) := dq_21 (by decide +kernel)
theorem dX9_errorOf_104 : decode cX9_errorOf 104 = .ok (.iaload, 1) := dq_46 (by decide +kernel)
theorem dX9_errorOf_105 : decode cX9_errorOf 105 = .ok (.isub, 1) := dq_100 (by decide +kernel)
theorem dX9_errorOf_106 : decode cX9_errorOf 106 = .ok (.istore 5, 2) := dq_54 (by decide +kernel)
theorem dX9_errorOf_108 : decode cX9_errorOf 108 = .ok (.iinc 6 1, 3) := dq_132 (by decide +kernel)
theorem dX9_errorOf_111 : decode cX9_errorOf 111 = .ok (.goto (-77), 3) := dq_167 (by decide +kernel)
theorem dX9_errorOf_114 : decode cX9_errorOf 114 = .ok (.iload 5, 2) := dq_21 (by decide +kernel)
theorem dX9_errorOf_116 : decode cX9_errorOf 116 = .ok (.ireturn, 1) := dq_172 (by decide +kernel)
theorem dX9_feed_0 : decode cX9_feed 0 = .ok (.iload_n 1, 1) := dq_27 (by decide +kernel)
theorem dX9_feed_1 : decode cX9_feed 1 = .ok (.iconst 1, 1) := dq_4 (by decide +kernel)
theorem dX9_feed_2 : decode cX9_feed 2 = .ok (.iconst 4, 1) := dq_7 (by decide +kernel)
theorem dX9_feed_3 : decode cX9_feed 3 = .ok (.invokestatic 148, 3) := dq_184 (by decide +kernel)
theorem dX9_feed_6 : decode cX9_feed 6 = .ok (.ifCond .ne 5, 3) := dq_154 (by decide +kernel)
theorem dX9_feed_9 : decode cX9_feed 9 = .ok (.iconst (-1), 1) := dq_2 (by decide +kernel)
theorem dX9_feed_10 : decode cX9_feed 10 = .ok (.ireturn, 1) := dq_172 (by decide +kernel)
theorem dX9_feed_11 : decode cX9_feed 11 = .ok (.aload_n 0, 1) := dq_42 (by decide +kernel)
theorem dX9_feed_12 : decode cX9_feed 12 = .ok (.getfield 284, 3) := dq_180 (by decide +kernel)
theorem dX9_feed_15 : decode cX9_feed 15 = .ok (.iload_n 1, 1) := dq_27 (by decide +kernel)
theorem dX9_feed_16 : decode cX9_feed 16 = .ok (.iadd, 1) := dq_96 (by decide +kernel)
theorem dX9_feed_17 : decode cX9_feed 17 = .ok (.bipush 120, 2) := dq_16 (by decide +kernel)
theorem dX9_feed_19 : decode cX9_feed 19 = .ok (.if_icmp .le 6, 3) := dq_164 (by decide +kernel)
theorem dX9_feed_22 : decode cX9_feed 22 = .ok (.bipush (-5), 2) := dq_16 (by decide +kernel)
theorem dX9_feed_24 : decode cX9_feed 24 = .ok (.ireturn, 1) := dq_172 (by decide +kernel)
theorem dX9_feed_25 : decode cX9_feed 25 = .ok (.iconst 0, 1) := dq_3 (by decide +kernel)
theorem dX9_feed_26 : decode cX9_feed 26 = .ok (.istore_n 3, 1) := dq_62 (by decide +kernel)
theorem dX9_feed_27 : decode cX9_feed 27 = .ok (.iload_n 3, 1) := dq_29 (by decide +kernel)
theorem dX9_feed_28 : decode cX9_feed 28 = .ok (.iload_n 1, 1) := dq_27 (by decide +kernel)
theorem dX9_feed_29 : decode cX9_feed 29 = .ok (.if_icmp .ge 35, 3) := dq_162 (by decide +kernel)
theorem dX9_feed_32 : decode cX9_feed 32 = .ok (.aload_n 0, 1) := dq_42 (by decide +kernel)
theorem dX9_feed_33 : decode cX9_feed 33 = .ok (.getfield 66, 3) := dq_180 (by decide +kernel)
theorem dX9_feed_36 : decode cX9_feed 36 = .ok (.aload_n 0, 1) := dq_42 (by decide +kernel)
theorem dX9_feed_37 : decode cX9_feed 37 = .ok (.getfield 284, 3) := dq_180 (by decide +kernel)
theorem dX9_feed_40 : decode cX9_feed 40 = .ok (.iload_n 2, 1) := dq_28 (by decide +kernel)
theorem dX9_feed_41 : decode cX9_feed 41 = .ok (.bipush 8, 2) := dq_16 (by decide +kernel)
theorem dX9_feed_43 : decode cX9_feed 43 = .ok (.iload_n 3, 1) := dq_29 (by decide +kernel)
theorem dX9_feed_44 : decode cX9_feed 44 = .ok (.imul, 1) := dq_104 (by decide +kernel)
theorem dX9_feed_45 : decode cX9_feed 45 = .ok (.ishr, 1) := dq_122 (by decide +kernel)
theorem dX9_feed_46 : decode cX9_feed 46 = .ok (.i2b, 1) := dq_145 (by decide +kernel)
theorem dX9_feed_47 : decode cX9_feed 47 = .ok (.bastore, 1) := dq_84 (by decide +kernel)
theorem dX9_feed_48 : decode cX9_feed 48 = .ok (.aload_n 0, 1) := dq_42 (by decide +kernel)
theorem dX9_feed_49 : decode cX9_feed 49 = .ok (.dup, 1) := dq_89 (by decide +kernel)
theorem dX9_feed_50 : decode cX9_feed 50 = .ok (.getfield 284, 3) := dq_180 (by decide +kernel)
theorem dX9_feed_53 : decode cX9_feed 53 = .ok (.iconst 1, 1) := dq_4 (by decide +kernel)
theorem dX9_feed_54 : decode cX9_feed 54 = .ok (.iadd, 1) := dq_96 (by decide +kernel)
theorem dX9_feed_55 : decode cX9_feed 55 = .ok (.putfield 284, 3) := dq_181 (by decide +kernel)
theorem dX9_feed_58 : decode cX9_feed 58 = .ok (.iinc 3 1, 3) := dq_132 (by decide +kernel)
theorem dX9_feed_61 : decode cX9_feed 61 = .ok (.goto (-34), 3) := dq_167 (by decide +kernel)
theorem dX9_feed_64 : decode cX9_feed 64 = .ok (.aload_n 0, 1) := dq_42 (by decide +kernel)
theorem dX9_feed_65 : decode cX9_feed 65 = .ok (.getfield 284, 3) := dq_180 (by decide +kernel)
theorem dX9_feed_68 : decode cX9_feed 68 = .ok (.ireturn, 1) := dq_172 (by decide +kernel)
theorem dX9_findRates_0 : decode cX9_findRates 0 = .ok (.aload_n 0, 1) := dq_42 (by decide +kernel)
theorem dX9_findRates_1 : decode cX9_findRates 1 = .ok (.iconst 0, 1) := dq_3 (by decide +kernel)
theorem dX9_findRates_2 : decode cX9_findRates 2 = .ok (.putfield 278, 3) := dq_181 (by decide +kernel)
theorem dX9_findRates_5 : decode cX9_findRates 5 = .ok (.iload_n 2, 1) := dq_28 (by decide +kernel)
theorem dX9_findRates_6 : decode cX9_findRates 6 = .ok (.istore 4, 2) := dq_54 (by decide +kernel)
theorem dX9_findRates_8 : decode cX9_findRates 8 = .ok (.iload 4, 2) := dq_21 (by decide +kernel)
theorem dX9_findRates_10 : decode cX9_findRates 10 = .ok (.iload_n 3, 1) := dq_29 (by decide +kernel)
theorem dX9_findRates_11 : decode cX9_findRates 11 = .ok (.if_icmp .ge 117, 3) := dq_162 (by decide +kernel)
theorem dX9_findRates_14 : decode cX9_findRates 14 = .ok (.aload_n 0, 1) := dq_42 (by decide +kernel)
theorem dX9_findRates_15 : decode cX9_findRates 15 = .ok (.iload_n 1, 1) := dq_27 (by decide +kernel)
theorem dX9_findRates_16 : decode cX9_findRates 16 = .ok (.iload 4, 2) := dq_21 (by decide +kernel)
theorem dX9_findRates_18 : decode cX9_findRates 18 = .ok (.iconst (-1), 1) := dq_2 (by decide +kernel)
theorem dX9_findRates_19 : decode cX9_findRates 19 = .ok (.invokevirtual 188, 3) := dq_182 (by decide +kernel)
theorem dX9_findRates_22 : decode cX9_findRates 22 = .ok (.istore 5, 2) := dq_54 (by decide +kernel)
theorem dX9_findRates_24 : decode cX9_findRates 24 = .ok (.iload 5, 2) := dq_21 (by decide +kernel)
theorem dX9_findRates_26 : decode cX9_findRates 26 = .ok (.ldc 169, 2) := dq_18 (by decide +kernel)
theorem dX9_findRates_28 : decode cX9_findRates 28 = .ok (.if_icmp .ne 6, 3) := dq_160 (by decide +kernel)
theorem dX9_findRates_31 : decode cX9_findRates 31 = .ok (.goto 91, 3) := dq_167 (by decide +kernel)
theorem dX9_findRates_34 : decode cX9_findRates 34 = .ok (.aload_n 0, 1) := dq_42 (by decide +kernel)
theorem dX9_findRates_35 : decode cX9_findRates 35 = .ok (.getfield 57, 3) := dq_180 (by decide +kernel)
theorem dX9_findRates_38 : decode cX9_findRates 38 = .ok (.aload_n 0, 1) := dq_42 (by decide +kernel)
theorem dX9_findRates_39 : decode cX9_findRates 39 = .ok (.getfield 278, 3) := dq_180 (by decide +kernel)
theorem dX9_findRates_42 : decode cX9_findRates 42 = .ok (.iload 4, 2) := dq_21 (by decide +kernel)
theorem dX9_findRates_44 : decode cX9_findRates 44 = .ok (.iastore, 1) := dq_79 (by decide +kernel)
theorem dX9_findRates_45 : decode cX9_findRates 45 = .ok (.aload_n 0, 1) := dq_42 (by decide +kernel)
theorem dX9_findRates_46 : decode cX9_findRates 46 = .ok (.getfield 60, 3) := dq_180 (by decide +kernel)
theorem dX9_findRates_49 : decode cX9_findRates 49 = .ok (.aload_n 0, 1) := dq_42 (by decide +kernel)
theorem dX9_findRates_50 : decode cX9_findRates 50 = .ok (.getfield 278, 3) := dq_180 (by decide +kernel)
theorem dX9_findRates_53 : decode cX9_findRates 53 = .ok (.iload 5, 2) := dq_21 (by decide +kernel)
theorem dX9_findRates_55 : decode cX9_findRates 55 = .ok (.iastore, 1) := dq_79 (by decide +kernel)
theorem dX9_findRates_56 : decode cX9_findRates 56 = .ok (.aload_n 0, 1) := dq_42 (by decide +kernel)
theorem dX9_findRates_57 : decode cX9_findRates 57 = .ok (.getfield 278, 3) := dq_180 (by decide +kernel)
theorem dX9_findRates_60 : decode cX9_findRates 60 = .ok (.istore 6, 2) := dq_54 (by decide +kernel)
theorem dX9_findRates_62 : decode cX9_findRates 62 = .ok (.iload 6, 2) := dq_21 (by decide +kernel)
theorem dX9_findRates_64 : decode cX9_findRates 64 = .ok (.ifCond .le 39, 3) := dq_158 (by decide +kernel)
theorem dX9_findRates_67 : decode cX9_findRates 67 = .ok (.aload_n 0, 1) := dq_42 (by decide +kernel)
theorem dX9_findRates_68 : decode cX9_findRates 68 = .ok (.getfield 63, 3) := dq_180 (by decide +kernel)
theorem dX9_findRates_71 : decode cX9_findRates 71 = .ok (.iload 6, 2) := dq_21 (by decide +kernel)
theorem dX9_findRates_73 : decode cX9_findRates 73 = .ok (.iconst 1, 1) := dq_4 (by decide +kernel)
theorem dX9_findRates_74 : decode cX9_findRates 74 = .ok (.isub, 1) := dq_100 (by decide +kernel)
theorem dX9_findRates_75 : decode cX9_findRates 75 = .ok (.iaload, 1) := dq_46 (by decide +kernel)
theorem dX9_findRates_76 : decode cX9_findRates 76 = .ok (.iload 5, 2) := dq_21 (by decide +kernel)
theorem dX9_findRates_78 : decode cX9_findRates 78 = .ok (.if_icmp .le 25, 3) := dq_164 (by decide +kernel)
theorem dX9_findRates_81 : decode cX9_findRates 81 = .ok (.aload_n 0, 1) := dq_42 (by decide +kernel)
theorem dX9_findRates_82 : decode cX9_findRates 82 = .ok (.getfield 63, 3) := dq_180 (by decide +kernel)
theorem dX9_findRates_85 : decode cX9_findRates 85 = .ok (.iload 6, 2) := dq_21 (by decide +kernel)
theorem dX9_findRates_87 : decode cX9_findRates 87 = .ok (.aload_n 0, 1) := dq_42 (by decide +kernel)
theorem dX9_findRates_88 : decode cX9_findRates 88 = .ok (.getfield 63, 3) := dq_180 (by decide +kernel)
theorem dX9_findRates_91 : decode cX9_findRates 91 = .ok (.iload 6, 2) := dq_21 (by decide +kernel)
theorem dX9_findRates_93 : decode cX9_findRates 93 = .ok (.iconst 1, 1) := dq_4 (by decide +kernel)
theorem dX9_findRates_94 : decode cX9_findRates 94 = .ok (.isub, 1) := dq_100 (by decide +kernel)
theorem dX9_findRates_95 : decode cX9_findRates 95 = .ok (.iaload, 1) := dq_46 (by decide +kernel)
theorem dX9_findRates_96 : decode cX9_findRates 96 = .ok (.iastore, 1) := dq_79 (by decide +kernel)
theorem dX9_findRates_97 : decode cX9_findRates 97 = .ok (.iinc 6 (-1), 3) := dq_132 (by decide +kernel)
theorem dX9_findRates_100 : decode cX9_findRates 100 = .ok (.goto (-38), 3) := dq_167 (by decide +kernel)
theorem dX9_findRates_103 : decode cX9_findRates 103 = .ok (.aload_n 0, 1) := dq_42 (by decide +kernel)
theorem dX9_findRates_104 : decode cX9_findRates 104 = .ok (.getfield 63, 3) := dq_180 (by decide +kernel)
theorem dX9_findRates_107 : decode cX9_findRates 107 = .ok (.iload 6, 2) := dq_21 (by decide +kernel)
theorem dX9_findRates_109 : decode cX9_findRates 109 = .ok (.iload 5, 2) := dq_21 (by decide +kernel)
theorem dX9_findRates_111 : decode cX9_findRates 111 = .ok (.iastore, 1) := dq_79 (by decide +kernel)
theorem dX9_findRates_112 : decode cX9_findRates 112 = .ok (.aload_n 0, 1) := dq_42 (by decide +kernel)
theorem dX9_findRates_113 : decode cX9_findRates 113 = .ok (.dup, 1) := dq_89 (by decide +kernel)
theorem dX9_findRates_114 : decode cX9_findRates 114 = .ok (.getfield 278, 3) := dq_180 (by decide +kernel)
theorem dX9_findRates_117 : decode cX9_findRates 117 = .ok (.iconst 1, 1) := dq_4 (by decide +kernel)
theorem dX9_findRates_118 : decode cX9_findRates 118 = .ok (.iadd, 1) := dq_96 (by decide +kernel)
theorem dX9_findRates_119 : decode cX9_findRates 119 = .ok (.putfield 278, 3) := dq_181 (by decide +kernel)
theorem dX9_findRates_122 : decode cX9_findRates 122 = .ok (.iinc 4 1, 3) := dq_132 (by decide +kernel)
theorem dX9_findRates_125 : decode cX9_findRates 125 = .ok (.goto (-117), 3) := dq_167 (by decide +kernel)
theorem dX9_findRates_128 : decode cX9_findRates 128 = .ok (.return_, 1) := dq_177 (by decide +kernel)
theorem dX9_floor_0 : decode cX9_floor 0 = .ok (.lload_n 0, 1) := dq_30 (by decide +kernel)
theorem dX9_floor_1 : decode cX9_floor 1 = .ok (.lload_n 2, 1) := dq_32 (by decide +kernel)
theorem dX9_floor_2 : decode cX9_floor 2 = .ok (.ldiv, 1) := dq_109 (by decide +kernel)
theorem dX9_floor_3 : decode cX9_floor 3 = .ok (.lload_n 0, 1) := dq_30 (by decide +kernel)
theorem dX9_floor_4 : decode cX9_floor 4 = .ok (.lload_n 2, 1) := dq_32 (by decide +kernel)
theorem dX9_floor_5 : decode cX9_floor 5 = .ok (.lrem, 1) := dq_113 (by decide +kernel)
theorem dX9_floor_6 : decode cX9_floor 6 = .ok (.lconst 0, 1) := dq_9 (by decide +kernel)
theorem dX9_floor_7 : decode cX9_floor 7 = .ok (.lcmp, 1) := dq_148 (by decide +kernel)
theorem dX9_floor_8 : decode cX9_floor 8 = .ok (.ifCond .eq 32, 3) := dq_153 (by decide +kernel)
theorem dX9_floor_11 : decode cX9_floor 11 = .ok (.lload_n 0, 1) := dq_30 (by decide +kernel)
theorem dX9_floor_12 : decode cX9_floor 12 = .ok (.lconst 0, 1) := dq_9 (by decide +kernel)
theorem dX9_floor_13 : decode cX9_floor 13 = .ok (.lcmp, 1) := dq_148 (by decide +kernel)
theorem dX9_floor_14 : decode cX9_floor 14 = .ok (.ifCond .ge 7, 3) := dq_156 (by decide +kernel)
theorem dX9_floor_17 : decode cX9_floor 17 = .ok (.iconst 1, 1) := dq_4 (by decide +kernel)
theorem dX9_floor_18 : decode cX9_floor 18 = .ok (.goto 4, 3) := dq_167 (by decide +kernel)
theorem dX9_floor_21 : decode cX9_floor 21 = .ok (.iconst 0, 1) := dq_3 (by decide +kernel)
theorem dX9_floor_22 : decode cX9_floor 22 = .ok (.lload_n 2, 1) := dq_32 (by decide +kernel)
theorem dX9_floor_23 : decode cX9_floor 23 = .ok (.lconst 0, 1) := dq_9 (by decide +kernel)
theorem dX9_floor_24 : decode cX9_floor 24 = .ok (.lcmp, 1) := dq_148 (by decide +kernel)
theorem dX9_floor_25 : decode cX9_floor 25 = .ok (.ifCond .ge 7, 3) := dq_156 (by decide +kernel)
theorem dX9_floor_28 : decode cX9_floor 28 = .ok (.iconst 1, 1) := dq_4 (by decide +kernel)
theorem dX9_floor_29 : decode cX9_floor 29 = .ok (.goto 4, 3) := dq_167 (by decide +kernel)
theorem dX9_floor_32 : decode cX9_floor 32 = .ok (.iconst 0, 1) := dq_3 (by decide +kernel)
theorem dX9_floor_33 : decode cX9_floor 33 = .ok (.if_icmp .eq 7, 3) := dq_159 (by decide +kernel)
theorem dX9_floor_36 : decode cX9_floor 36 = .ok (.lconst 1, 1) := dq_10 (by decide +kernel)
theorem dX9_floor_37 : decode cX9_floor 37 = .ok (.goto 4, 3) := dq_167 (by decide +kernel)
theorem dX9_floor_40 : decode cX9_floor 40 = .ok (.lconst 0, 1) := dq_9 (by decide +kernel)
theorem dX9_floor_41 : decode cX9_floor 41 = .ok (.lsub, 1) := dq_101 (by decide +kernel)
theorem dX9_floor_42 : decode cX9_floor 42 = .ok (.lreturn, 1) := dq_173 (by decide +kernel)
theorem dX9_foretold_0 : decode cX9_foretold 0 = .ok (.aload_n 0, 1) := dq_42 (by decide +kernel)
theorem dX9_foretold_1 : decode cX9_foretold 1 = .ok (.iload_n 1, 1) := dq_27 (by decide +kernel)
theorem dX9_foretold_2 : decode cX9_foretold 2 = .ok (.iload_n 2, 1) := dq_28 (by decide +kernel)
theorem dX9_foretold_3 : decode cX9_foretold 3 = .ok (.iload_n 3, 1) := dq_29 (by decide +kernel)
theorem dX9_foretold_4 : decode cX9_foretold 4 = .ok (.invokevirtual 242, 3) := dq_182 (by decide +kernel)
theorem dX9_foretold_7 : decode cX9_foretold 7 = .ok (.ifCond .lt 27, 3) := dq_155 (by decide +kernel)
theorem dX9_foretold_10 : decode cX9_foretold 10 = .ok (.iload 4, 2) := dq_21 (by decide +kernel)
theorem dX9_foretold_12 : decode cX9_foretold 12 = .ok (.bipush (-50), 2) := dq_16 (by decide +kernel)
theorem dX9_foretold_14 : decode cX9_foretold 14 = .ok (.bipush 50, 2) := dq_16 (by decide +kernel)
theorem dX9_foretold_16 : decode cX9_foretold 16 = .ok (.invokestatic 148, 3) := dq_184 (by decide +kernel)
theorem dX9_foretold_19 : decode cX9_foretold 19 = .ok (.ifCond .eq 15, 3) := dq_153 (by decide +kernel)
theorem dX9_foretold_22 : decode cX9_foretold 22 = .ok (.iload 5, 2) := dq_21 (by decide +kernel)
theorem dX9_foretold_24 : decode cX9_foretold 24 = .ok (.iconst 0, 1) := dq_3 (by decide +kernel)
theorem dX9_foretold_25 : decode cX9_foretold 25 = .ok (.sipush 399, 3) := dq_17 (by decide +kernel)
theorem dX9_foretold_28 : decode cX9_foretold 28 = .ok (.invokestatic 148, 3) := dq_184 (by decide +kernel)
theorem dX9_foretold_31 : decode cX9_foretold 31 = .ok (.ifCond .ne 6, 3) := dq_154 (by decide +kernel)
theorem dX9_foretold_34 : decode cX9_foretold 34 = .ok (.ldc 169, 2) := dq_18 (by decide +kernel)
theorem dX9_foretold_36 : decode cX9_foretold 36 = .ok (.ireturn, 1) := dq_172 (by decide +kernel)
theorem dX9_foretold_37 : decode cX9_foretold 37 = .ok (.aload_n 0, 1) := dq_42 (by decide +kernel)
theorem dX9_foretold_38 : decode cX9_foretold 38 = .ok (.iload_n 1, 1) := dq_27 (by decide +kernel)
theorem dX9_foretold_39 : decode cX9_foretold 39 = .ok (.iload_n 2, 1) := dq_28 (by decide +kernel)
theorem dX9_foretold_40 : decode cX9_foretold 40 = .ok (.iload_n 3, 1) := dq_29 (by decide +kernel)
theorem dX9_foretold_41 : decode cX9_foretold 41 = .ok (.invokevirtual 245, 3) := dq_182 (by decide +kernel)
theorem dX9_foretold_44 : decode cX9_foretold 44 = .ok (.aload_n 0, 1) := dq_42 (by decide +kernel)
theorem dX9_foretold_45 : decode cX9_foretold 45 = .ok (.getfield 199, 3) := dq_180 (by decide +kernel)
theorem dX9_foretold_48 : decode cX9_foretold 48 = .ok (.lconst 0, 1) := dq_9 (by decide +kernel)
theorem dX9_foretold_49 : decode cX9_foretold 49 = .ok (.lcmp, 1) := dq_148 (by decide +kernel)
theorem dX9_foretold_50 : decode cX9_foretold 50 = .ok (.ifCond .ne 6, 3) := dq_154 (by decide +kernel)
theorem dX9_foretold_53 : decode cX9_foretold 53 = .ok (.ldc 169, 2) := dq_18 (by decide +kernel)
theorem dX9_foretold_55 : decode cX9_foretold 55 = .ok (.ireturn, 1) := dq_172 (by decide +kernel)
theorem dX9_foretold_56 : decode cX9_foretold 56 = .ok (.aload_n 0, 1) := dq_42 (by decide +kernel)
theorem dX9_foretold_57 : decode cX9_foretold 57 = .ok (.invokevirtual 249, 3) := dq_182 (by decide +kernel)
theorem dX9_foretold_60 : decode cX9_foretold 60 = .ok (.tableswitch 85 2 4 #[41, 28, 63], 28) := by decide +kernel
theorem dX9_foretold_88 : decode cX9_foretold 88 = .ok (.aload_n 0, 1) := dq_42 (by decide +kernel)
theorem dX9_foretold_89 : decode cX9_foretold 89 = .ok (.iload 4, 2) := dq_21 (by decide +kernel)
theorem dX9_foretold_91 : decode cX9_foretold 91 = .ok (.i2l, 1) := dq_133 (by decide +kernel)
theorem dX9_foretold_92 : decode cX9_foretold 92 = .ok (.iload 5, 2) := dq_21 (by decide +kernel)
theorem dX9_foretold_94 : decode cX9_foretold 94 = .ok (.i2l, 1) := dq_133 (by decide +kernel)
theorem dX9_foretold_95 : decode cX9_foretold 95 = .ok (.invokevirtual 259, 3) := dq_182 (by decide +kernel)
theorem dX9_foretold_98 : decode cX9_foretold 98 = .ok (.goto 63, 3) := dq_167 (by decide +kernel)
theorem dX9_foretold_101 : decode cX9_foretold 101 = .ok (.aload_n 0, 1) := dq_42 (by decide +kernel)
theorem dX9_foretold_102 : decode cX9_foretold 102 = .ok (.aload_n 0, 1) := dq_42 (by decide +kernel)
theorem dX9_foretold_103 : decode cX9_foretold 103 = .ok (.getfield 203, 3) := dq_180 (by decide +kernel)
theorem dX9_foretold_106 : decode cX9_foretold 106 = .ok (.aload_n 0, 1) := dq_42 (by decide +kernel)
theorem dX9_foretold_107 : decode cX9_foretold 107 = .ok (.getfield 212, 3) := dq_180 (by decide +kernel)
theorem dX9_foretold_110 : decode cX9_foretold 110 = .ok (.aload_n 0, 1) := dq_42 (by decide +kernel)
theorem dX9_foretold_111 : decode cX9_foretold 111 = .ok (.getfield 221, 3) := dq_180 (by decide +kernel)
theorem dX9_foretold_114 : decode cX9_foretold 114 = .ok (.iload 4, 2) := dq_21 (by decide +kernel)
theorem dX9_foretold_116 : decode cX9_foretold 116 = .ok (.i2l, 1) := dq_133 (by decide +kernel)
theorem dX9_foretold_117 : decode cX9_foretold 117 = .ok (.invokevirtual 263, 3) := dq_182 (by decide +kernel)
theorem dX9_foretold_120 : decode cX9_foretold 120 = .ok (.goto 41, 3) := dq_167 (by decide +kernel)
theorem dX9_foretold_123 : decode cX9_foretold 123 = .ok (.aload_n 0, 1) := dq_42 (by decide +kernel)
theorem dX9_foretold_124 : decode cX9_foretold 124 = .ok (.aload_n 0, 1) := dq_42 (by decide +kernel)
theorem dX9_foretold_125 : decode cX9_foretold 125 = .ok (.getfield 206, 3) := dq_180 (by decide +kernel)
theorem dX9_foretold_128 : decode cX9_foretold 128 = .ok (.aload_n 0, 1) := dq_42 (by decide +kernel)
theorem dX9_foretold_129 : decode cX9_foretold 129 = .ok (.getfield 218, 3) := dq_180 (by decide +kernel)
theorem dX9_foretold_132 : decode cX9_foretold 132 = .ok (.aload_n 0, 1) := dq_42 (by decide +kernel)
theorem dX9_foretold_133 : decode cX9_foretold 133 = .ok (.getfield 224, 3) := dq_180 (by decide +kernel)
theorem dX9_foretold_136 : decode cX9_foretold 136 = .ok (.iload 5, 2) := dq_21 (by decide +kernel)
theorem dX9_foretold_138 : decode cX9_foretold 138 = .ok (.i2l, 1) := dq_133 (by decide +kernel)
theorem dX9_foretold_139 : decode cX9_foretold 139 = .ok (.invokevirtual 263, 3) := dq_182 (by decide +kernel)
theorem dX9_foretold_142 : decode cX9_foretold 142 = .ok (.goto 19, 3) := dq_167 (by decide +kernel)
theorem dX9_foretold_145 : decode cX9_foretold 145 = .ok (.aload_n 0, 1) := dq_42 (by decide +kernel)
theorem dX9_foretold_146 : decode cX9_foretold 146 = .ok (.aload_n 0, 1) := dq_42 (by decide +kernel)
theorem dX9_foretold_147 : decode cX9_foretold 147 = .ok (.getfield 199, 3) := dq_180 (by decide +kernel)
theorem dX9_foretold_150 : decode cX9_foretold 150 = .ok (.putfield 253, 3) := dq_181 (by decide +kernel)
theorem dX9_foretold_153 : decode cX9_foretold 153 = .ok (.aload_n 0, 1) := dq_42 (by decide +kernel)
theorem dX9_foretold_154 : decode cX9_foretold 154 = .ok (.aload_n 0, 1) := dq_42 (by decide +kernel)
theorem dX9_foretold_155 : decode cX9_foretold 155 = .ok (.getfield 209, 3) := dq_180 (by decide +kernel)
theorem dX9_foretold_158 : decode cX9_foretold 158 = .ok (.putfield 256, 3) := dq_181 (by decide +kernel)
theorem dX9_foretold_161 : decode cX9_foretold 161 = .ok (.aload_n 0, 1) := dq_42 (by decide +kernel)
theorem dX9_foretold_162 : decode cX9_foretold 162 = .ok (.getfield 253, 3) := dq_180 (by decide +kernel)
theorem dX9_foretold_165 : decode cX9_foretold 165 = .ok (.lconst 0, 1) := dq_9 (by decide +kernel)
theorem dX9_foretold_166 : decode cX9_foretold 166 = .ok (.lcmp, 1) := dq_148 (by decide +kernel)
theorem dX9_foretold_167 : decode cX9_foretold 167 = .ok (.ifCond .ge 21, 3) := dq_156 (by decide +kernel)
theorem dX9_foretold_170 : decode cX9_foretold 170 = .ok (.aload_n 0, 1) := dq_42 (by decide +kernel)
theorem dX9_foretold_171 : decode cX9_foretold 171 = .ok (.aload_n 0, 1) := dq_42 (by decide +kernel)
theorem dX9_foretold_172 : decode cX9_foretold 172 = .ok (.getfield 253, 3) := dq_180 (by decide +kernel)
theorem dX9_foretold_175 : decode cX9_foretold 175 = .ok (.lneg, 1) := dq_117 (by decide +kernel)
theorem dX9_foretold_176 : decode cX9_foretold 176 = .ok (.putfield 253, 3) := dq_181 (by decide +kernel)
theorem dX9_foretold_179 : decode cX9_foretold 179 = .ok (.aload_n 0, 1) := dq_42 (by decide +kernel)
theorem dX9_foretold_180 : decode cX9_foretold 180 = .ok (.aload_n 0, 1) := dq_42 (by decide +kernel)
theorem dX9_foretold_181 : decode cX9_foretold 181 = .ok (.getfield 256, 3) := dq_180 (by decide +kernel)
theorem dX9_foretold_184 : decode cX9_foretold 184 = .ok (.lneg, 1) := dq_117 (by decide +kernel)
theorem dX9_foretold_185 : decode cX9_foretold 185 = .ok (.putfield 256, 3) := dq_181 (by decide +kernel)
theorem dX9_foretold_188 : decode cX9_foretold 188 = .ok (.aload_n 0, 1) := dq_42 (by decide +kernel)
theorem dX9_foretold_189 : decode cX9_foretold 189 = .ok (.getfield 256, 3) := dq_180 (by decide +kernel)
theorem dX9_foretold_192 : decode cX9_foretold 192 = .ok (.aload_n 0, 1) := dq_42 (by decide +kernel)
theorem dX9_foretold_193 : decode cX9_foretold 193 = .ok (.getfield 253, 3) := dq_180 (by decide +kernel)
theorem dX9_foretold_196 : decode cX9_foretold 196 = .ok (.invokestatic 267, 3) := dq_184 (by decide +kernel)
theorem dX9_foretold_199 : decode cX9_foretold 199 = .ok (.lstore 6, 2) := dq_55 (by decide +kernel)
theorem dX9_foretold_201 : decode cX9_foretold 201 = .ok (.lload 6, 2) := dq_22 (by decide +kernel)
theorem dX9_foretold_203 : decode cX9_foretold 203 = .ok (.ldc2_w 270, 3) := dq_20 (by decide +kernel)
theorem dX9_foretold_206 : decode cX9_foretold 206 = .ok (.lcmp, 1) := dq_148 (by decide +kernel)
theorem dX9_foretold_207 : decode cX9_foretold 207 = .ok (.ifCond .gt 12, 3) := dq_157 (by decide +kernel)
theorem dX9_foretold_210 : decode cX9_foretold 210 = .ok (.lload 6, 2) := dq_22 (by decide +kernel)
theorem dX9_foretold_212 : decode cX9_foretold 212 = .ok (.ldc2_w 272, 3) := dq_20 (by decide +kernel)
theorem dX9_foretold_215 : decode cX9_foretold 215 = .ok (.lcmp, 1) := dq_148 (by decide +kernel)
theorem dX9_foretold_216 : decode cX9_foretold 216 = .ok (.ifCond .ge 6, 3) := dq_156 (by decide +kernel)
theorem dX9_foretold_219 : decode cX9_foretold 219 = .ok (.ldc 169, 2) := dq_18 (by decide +kernel)
theorem dX9_foretold_221 : decode cX9_foretold 221 = .ok (.ireturn, 1) := dq_172 (by decide +kernel)
theorem dX9_foretold_222 : decode cX9_foretold 222 = .ok (.ldc2_w 274, 3) := dq_20 (by decide +kernel)
theorem dX9_foretold_225 : decode cX9_foretold 225 = .ok (.lload 6, 2) := dq_22 (by decide +kernel)
theorem dX9_foretold_227 : decode cX9_foretold 227 = .ok (.lmul, 1) := dq_105 (by decide +kernel)
theorem dX9_foretold_228 : decode cX9_foretold 228 = .ok (.ldc2_w 274, 3) := dq_20 (by decide +kernel)
theorem dX9_foretold_231 : decode cX9_foretold 231 = .ok (.aload_n 0, 1) := dq_42 (by decide +kernel)
theorem dX9_foretold_232 : decode cX9_foretold 232 = .ok (.getfield 256, 3) := dq_180 (by decide +kernel)
theorem dX9_foretold_235 : decode cX9_foretold 235 = .ok (.lload 6, 2) := dq_22 (by decide +kernel)
theorem dX9_foretold_237 : decode cX9_foretold 237 = .ok (.aload_n 0, 1) := dq_42 (by decide +kernel)
theorem dX9_foretold_238 : decode cX9_foretold 238 = .ok (.getfield 253, 3) := dq_180 (by decide +kernel)
theorem dX9_foretold_241 : decode cX9_foretold 241 = .ok (.lmul, 1) := dq_105 (by decide +kernel)
theorem dX9_foretold_242 : decode cX9_foretold 242 = .ok (.lsub, 1) := dq_101 (by decide +kernel)
theorem dX9_foretold_243 : decode cX9_foretold 243 = .ok (.lmul, 1) := dq_105 (by decide +kernel)
theorem dX9_foretold_244 : decode cX9_foretold 244 = .ok (.aload_n 0, 1) := dq_42 (by decide +kernel)
theorem dX9_foretold_245 : decode cX9_foretold 245 = .ok (.getfield 253, 3) := dq_180 (by decide +kernel)
theorem dX9_foretold_248 : decode cX9_foretold 248 = .ok (.ldiv, 1) := dq_109 (by decide +kernel)
theorem dX9_foretold_249 : decode cX9_foretold 249 = .ok (.ladd, 1) := dq_97 (by decide +kernel)
theorem dX9_foretold_250 : decode cX9_foretold 250 = .ok (.lstore 8, 2) := dq_55 (by decide +kernel)
theorem dX9_foretold_252 : decode cX9_foretold 252 = .ok (.lload 8, 2) := dq_22 (by decide +kernel)
theorem dX9_foretold_254 : decode cX9_foretold 254 = .ok (.ldc2_w 276, 3) := dq_20 (by decide +kernel)
theorem dX9_foretold_257 : decode cX9_foretold 257 = .ok (.lcmp, 1) := dq_148 (by decide +kernel)
theorem dX9_foretold_258 : decode cX9_foretold 258 = .ok (.ifCond .gt 12, 3) := dq_157 (by decide +kernel)
theorem dX9_foretold_261 : decode cX9_foretold 261 = .ok (.lload 8, 2) := dq_22 (by decide +kernel)
theorem dX9_foretold_263 : decode cX9_foretold 263 = .ok (.ldc2_w 230, 3) := dq_20 (by decide +kernel)
theorem dX9_foretold_266 : decode cX9_foretold 266 = .ok (.lcmp, 1) := dq_148 (by decide +kernel)
theorem dX9_foretold_267 : decode cX9_foretold 267 = .ok (.ifCond .ge 8, 3) := dq_156 (by decide +kernel)
theorem dX9_foretold_270 : decode cX9_foretold 270 = .ok (.ldc 169, 2) := dq_18 (by decide +kernel)
theorem dX9_foretold_272 : decode cX9_foretold 272 = .ok (.goto 6, 3) := dq_167 (by decide +kernel)
theorem dX9_foretold_275 : decode cX9_foretold 275 = .ok (.lload 8, 2) := dq_22 (by decide +kernel)
theorem dX9_foretold_277 : decode cX9_foretold 277 = .ok (.l2i, 1) := dq_136 (by decide +kernel)
theorem dX9_foretold_278 : decode cX9_foretold 278 = .ok (.ireturn, 1) := dq_172 (by decide +kernel)
theorem dX9_goesTo_0 : decode cX9_goesTo 0 = .ok (.aload_n 0, 1) := dq_42 (by decide +kernel)
theorem dX9_goesTo_1 : decode cX9_goesTo 1 = .ok (.getfield 39, 3) := dq_180 (by decide +kernel)
theorem dX9_goesTo_4 : decode cX9_goesTo 4 = .ok (.sipush 400, 3) := dq_17 (by decide +kernel)
theorem dX9_goesTo_7 : decode cX9_goesTo 7 = .ok (.iload_n 1, 1) := dq_27 (by decide +kernel)
theorem dX9_goesTo_8 : decode cX9_goesTo 8 = .ok (.imul, 1) := dq_104 (by decide +kernel)
theorem dX9_goesTo_9 : decode cX9_goesTo 9 = .ok (.aload_n 0, 1) := dq_42 (by decide +kernel)
theorem dX9_goesTo_10 : decode cX9_goesTo 10 = .ok (.getfield 156, 3) := dq_180 (by decide +kernel)
theorem dX9_goesTo_13 : decode cX9_goesTo 13 = .ok (.iadd, 1) := dq_96 (by decide +kernel)
theorem dX9_goesTo_14 : decode cX9_goesTo 14 = .ok (.iload_n 2, 1) := dq_28 (by decide +kernel)
theorem dX9_goesTo_15 : decode cX9_goesTo 15 = .ok (.iastore, 1) := dq_79 (by decide +kernel)
theorem dX9_goesTo_16 : decode cX9_goesTo 16 = .ok (.return_, 1) := dq_177 (by decide +kernel)
theorem dX9_hasTrial_0 : decode cX9_hasTrial 0 = .ok (.aload_n 0, 1) := dq_42 (by decide +kernel)
theorem dX9_hasTrial_1 : decode cX9_hasTrial 1 = .ok (.iload_n 1, 1) := dq_27 (by decide +kernel)
theorem dX9_hasTrial_2 : decode cX9_hasTrial 2 = .ok (.iload_n 2, 1) := dq_28 (by decide +kernel)
theorem dX9_hasTrial_3 : decode cX9_hasTrial 3 = .ok (.iload_n 3, 1) := dq_29 (by decide +kernel)
theorem dX9_hasTrial_4 : decode cX9_hasTrial 4 = .ok (.invokevirtual 281, 3) := dq_182 (by decide +kernel)
theorem dX9_hasTrial_7 : decode cX9_hasTrial 7 = .ok (.aload_n 0, 1) := dq_42 (by decide +kernel)
theorem dX9_hasTrial_8 : decode cX9_hasTrial 8 = .ok (.getfield 70, 3) := dq_180 (by decide +kernel)
theorem dX9_hasTrial_11 : decode cX9_hasTrial 11 = .ok (.iconst 0, 1) := dq_3 (by decide +kernel)
theorem dX9_hasTrial_12 : decode cX9_hasTrial 12 = .ok (.baload, 1) := dq_51 (by decide +kernel)
theorem dX9_hasTrial_13 : decode cX9_hasTrial 13 = .ok (.ifCond .eq 14, 3) := dq_153 (by decide +kernel)
theorem dX9_hasTrial_16 : decode cX9_hasTrial 16 = .ok (.aload_n 0, 1) := dq_42 (by decide +kernel)
theorem dX9_hasTrial_17 : decode cX9_hasTrial 17 = .ok (.getfield 278, 3) := dq_180 (by decide +kernel)
theorem dX9_hasTrial_20 : decode cX9_hasTrial 20 = .ok (.ifCond .le 7, 3) := dq_158 (by decide +kernel)
theorem dX9_hasTrial_23 : decode cX9_hasTrial 23 = .ok (.iconst 1, 1) := dq_4 (by decide +kernel)
theorem dX9_hasTrial_24 : decode cX9_hasTrial 24 = .ok (.goto 4, 3) := dq_167 (by decide +kernel)
theorem dX9_hasTrial_27 : decode cX9_hasTrial 27 = .ok (.iconst 0, 1) := dq_3 (by decide +kernel)
theorem dX9_hasTrial_28 : decode cX9_hasTrial 28 = .ok (.ireturn, 1) := dq_172 (by decide +kernel)
theorem dX9_holder_0 : decode cX9_holder 0 = .ok (.aload_n 0, 1) := dq_42 (by decide +kernel)
theorem dX9_holder_1 : decode cX9_holder 1 = .ok (.iload_n 1, 1) := dq_27 (by decide +kernel)
theorem dX9_holder_2 : decode cX9_holder 2 = .ok (.invokevirtual 172, 3) := dq_182 (by decide +kernel)
theorem dX9_holder_5 : decode cX9_holder 5 = .ok (.ifCond .lt 15, 3) := dq_155 (by decide +kernel)
theorem dX9_holder_8 : decode cX9_holder 8 = .ok (.iload_n 2, 1) := dq_28 (by decide +kernel)
theorem dX9_holder_9 : decode cX9_holder 9 = .ok (.iconst 0, 1) := dq_3 (by decide +kernel)
theorem dX9_holder_10 : decode cX9_holder 10 = .ok (.aload_n 0, 1) := dq_42 (by decide +kernel)
theorem dX9_holder_11 : decode cX9_holder 11 = .ok (.getfield 156, 3) := dq_180 (by decide +kernel)
theorem dX9_holder_14 : decode cX9_holder 14 = .ok (.invokestatic 148, 3) := dq_184 (by decide +kernel)
theorem dX9_holder_17 : decode cX9_holder 17 = .ok (.ifCond .ne 8, 3) := dq_154 (by decide +kernel)
theorem dX9_holder_20 : decode cX9_holder 20 = .ok (.ldc 169, 2) := dq_18 (by decide +kernel)
theorem dX9_holder_22 : decode cX9_holder 22 = .ok (.goto 15, 3) := dq_167 (by decide +kernel)
theorem dX9_holder_25 : decode cX9_holder 25 = .ok (.aload_n 0, 1) := dq_42 (by decide +kernel)
theorem dX9_holder_26 : decode cX9_holder 26 = .ok (.getfield 39, 3) := dq_180 (by decide +kernel)
theorem dX9_holder_29 : decode cX9_holder 29 = .ok (.sipush 400, 3) := dq_17 (by decide +kernel)
theorem dX9_holder_32 : decode cX9_holder 32 = .ok (.iload_n 1, 1) := dq_27 (by decide +kernel)
theorem dX9_holder_33 : decode cX9_holder 33 = .ok (.imul, 1) := dq_104 (by decide +kernel)
theorem dX9_holder_34 : decode cX9_holder 34 = .ok (.iload_n 2, 1) := dq_28 (by decide +kernel)
theorem dX9_holder_35 : decode cX9_holder 35 = .ok (.iadd, 1) := dq_96 (by decide +kernel)
theorem dX9_holder_36 : decode cX9_holder 36 = .ok (.iaload, 1) := dq_46 (by decide +kernel)
theorem dX9_holder_37 : decode cX9_holder 37 = .ok (.ireturn, 1) := dq_172 (by decide +kernel)
theorem dX9_holderNow_0 : decode cX9_holderNow 0 = .ok (.aload_n 0, 1) := dq_42 (by decide +kernel)
theorem dX9_holderNow_1 : decode cX9_holderNow 1 = .ok (.getfield 39, 3) := dq_180 (by decide +kernel)
theorem dX9_holderNow_4 : decode cX9_holderNow 4 = .ok (.sipush 400, 3) := dq_17 (by decide +kernel)
theorem dX9_holderNow_7 : decode cX9_holderNow 7 = .ok (.iload_n 1, 1) := dq_27 (by decide +kernel)
theorem dX9_holderNow_8 : decode cX9_holderNow 8 = .ok (.imul, 1) := dq_104 (by decide +kernel)
theorem dX9_holderNow_9 : decode cX9_holderNow 9 = .ok (.aload_n 0, 1) := dq_42 (by decide +kernel)
theorem dX9_holderNow_10 : decode cX9_holderNow 10 = .ok (.getfield 156, 3) := dq_180 (by decide +kernel)
theorem dX9_holderNow_13 : decode cX9_holderNow 13 = .ok (.iadd, 1) := dq_96 (by decide +kernel)
theorem dX9_holderNow_14 : decode cX9_holderNow 14 = .ok (.iaload, 1) := dq_46 (by decide +kernel)
theorem dX9_holderNow_15 : decode cX9_holderNow 15 = .ok (.ireturn, 1) := dq_172 (by decide +kernel)
theorem dX9_holds_0 : decode cX9_holds 0 = .ok (.iload_n 1, 1) := dq_27 (by decide +kernel)
theorem dX9_holds_1 : decode cX9_holds 1 = .ok (.invokestatic 152, 3) := dq_184 (by decide +kernel)
theorem dX9_holds_4 : decode cX9_holds 4 = .ok (.ifCond .eq 12, 3) := dq_153 (by decide +kernel)
theorem dX9_holds_7 : decode cX9_holds 7 = .ok (.aload_n 0, 1) := dq_42 (by decide +kernel)
theorem dX9_holds_8 : decode cX9_holds 8 = .ok (.getfield 17, 3) := dq_180 (by decide +kernel)
theorem dX9_holds_11 : decode cX9_holds 11 = .ok (.iload_n 1, 1) := dq_27 (by decide +kernel)
theorem dX9_holds_12 : decode cX9_holds 12 = .ok (.iaload, 1) := dq_46 (by decide +kernel)
theorem dX9_holds_13 : decode cX9_holds 13 = .ok (.goto 4, 3) := dq_167 (by decide +kernel)
theorem dX9_holds_16 : decode cX9_holds 16 = .ok (.iconst (-1), 1) := dq_2 (by decide +kernel)
theorem dX9_holds_17 : decode cX9_holds 17 = .ok (.ireturn, 1) := dq_172 (by decide +kernel)
theorem dX9_home_0 : decode cX9_home 0 = .ok (.aload_n 0, 1) := dq_42 (by decide +kernel)
theorem dX9_home_1 : decode cX9_home 1 = .ok (.iload_n 1, 1) := dq_27 (by decide +kernel)
theorem dX9_home_2 : decode cX9_home 2 = .ok (.invokevirtual 172, 3) := dq_182 (by decide +kernel)
theorem dX9_home_5 : decode cX9_home 5 = .ok (.istore_n 2, 1) := dq_61 (by decide +kernel)
theorem dX9_home_6 : decode cX9_home 6 = .ok (.iload_n 2, 1) := dq_28 (by decide +kernel)
theorem dX9_home_7 : decode cX9_home 7 = .ok (.ifCond .ge 5, 3) := dq_156 (by decide +kernel)
theorem dX9_home_10 : decode cX9_home 10 = .ok (.iload_n 2, 1) := dq_28 (by decide +kernel)
theorem dX9_home_11 : decode cX9_home 11 = .ok (.ireturn, 1) := dq_172 (by decide +kernel)
theorem dX9_home_12 : decode cX9_home 12 = .ok (.aload_n 0, 1) := dq_42 (by decide +kernel)
theorem dX9_home_13 : decode cX9_home 13 = .ok (.iload_n 1, 1) := dq_27 (by decide +kernel)
theorem dX9_home_14 : decode cX9_home 14 = .ok (.invokevirtual 165, 3) := dq_182 (by decide +kernel)
theorem dX9_home_17 : decode cX9_home 17 = .ok (.iconst 0, 1) := dq_3 (by decide +kernel)
theorem dX9_home_18 : decode cX9_home 18 = .ok (.bipush 19, 2) := dq_16 (by decide +kernel)
theorem dX9_home_20 : decode cX9_home 20 = .ok (.invokestatic 148, 3) := dq_184 (by decide +kernel)
theorem dX9_home_23 : decode cX9_home 23 = .ok (.ifCond .ne 6, 3) := dq_154 (by decide +kernel)
theorem dX9_home_26 : decode cX9_home 26 = .ok (.bipush (-4), 2) := dq_16 (by decide +kernel)
theorem dX9_home_28 : decode cX9_home 28 = .ok (.ireturn, 1) := dq_172 (by decide +kernel)
theorem dX9_home_29 : decode cX9_home 29 = .ok (.aload_n 0, 1) := dq_42 (by decide +kernel)
theorem dX9_home_30 : decode cX9_home 30 = .ok (.iload_n 1, 1) := dq_27 (by decide +kernel)
theorem dX9_home_31 : decode cX9_home 31 = .ok (.iconst (-1), 1) := dq_2 (by decide +kernel)
theorem dX9_home_32 : decode cX9_home 32 = .ok (.invokevirtual 392, 3) := dq_182 (by decide +kernel)
theorem dX9_home_35 : decode cX9_home 35 = .ok (.iconst 1, 1) := dq_4 (by decide +kernel)
theorem dX9_home_36 : decode cX9_home 36 = .ok (.ireturn, 1) := dq_172 (by decide +kernel)
theorem dX9_in_0 : decode cX9_in 0 = .ok (.iload_n 0, 1) := dq_26 (by decide +kernel)
theorem dX9_in_1 : decode cX9_in 1 = .ok (.iload_n 1, 1) := dq_27 (by decide +kernel)
theorem dX9_in_2 : decode cX9_in 2 = .ok (.if_icmp .lt 12, 3) := dq_161 (by decide +kernel)
theorem dX9_in_5 : decode cX9_in 5 = .ok (.iload_n 0, 1) := dq_26 (by decide +kernel)
theorem dX9_in_6 : decode cX9_in 6 = .ok (.iload_n 2, 1) := dq_28 (by decide +kernel)
theorem dX9_in_7 : decode cX9_in 7 = .ok (.if_icmp .gt 7, 3) := dq_163 (by decide +kernel)
theorem dX9_in_10 : decode cX9_in 10 = .ok (.iconst 1, 1) := dq_4 (by decide +kernel)
theorem dX9_in_11 : decode cX9_in 11 = .ok (.goto 4, 3) := dq_167 (by decide +kernel)
theorem dX9_in_14 : decode cX9_in 14 = .ok (.iconst 0, 1) := dq_3 (by decide +kernel)
theorem dX9_in_15 : decode cX9_in 15 = .ok (.ireturn, 1) := dq_172 (by decide +kernel)
theorem dX9_init_0 : decode cX9_init 0 = .ok (.aload_n 0, 1) := dq_42 (by decide +kernel)
theorem dX9_init_1 : decode cX9_init 1 = .ok (.invokespecial 7, 3) := dq_183 (by decide +kernel)
theorem dX9_init_4 : decode cX9_init 4 = .ok (.aload_n 0, 1) := dq_42 (by decide +kernel)
theorem dX9_init_5 : decode cX9_init 5 = .ok (.sipush 400, 3) := dq_17 (by decide +kernel)
theorem dX9_init_8 : decode cX9_init 8 = .ok (.newarray .int, 2) := dq_188_10 (by decide +kernel)
theorem dX9_init_10 : decode cX9_init 10 = .ok (.putfield 13, 3) := dq_181 (by decide +kernel)
theorem dX9_init_13 : decode cX9_init 13 = .ok (.aload_n 0, 1) := dq_42 (by decide +kernel)
theorem dX9_init_14 : decode cX9_init 14 = .ok (.bipush 16, 2) := dq_16 (by decide +kernel)
theorem dX9_init_16 : decode cX9_init 16 = .ok (.newarray .int, 2) := dq_188_10 (by decide +kernel)
theorem dX9_init_18 : decode cX9_init 18 = .ok (.putfield 17, 3) := dq_181 (by decide +kernel)
theorem dX9_init_21 : decode cX9_init 21 = .ok (.aload_n 0, 1) := dq_42 (by decide +kernel)
theorem dX9_init_22 : decode cX9_init 22 = .ok (.bipush 16, 2) := dq_16 (by decide +kernel)
theorem dX9_init_24 : decode cX9_init 24 = .ok (.newarray .int, 2) := dq_188_10 (by decide +kernel)
theorem dX9_init_26 : decode cX9_init 26 = .ok (.putfield 20, 3) := dq_181 (by decide +kernel)
theorem dX9_init_29 : decode cX9_init 29 = .ok (.aload_n 0, 1) := dq_42 (by decide +kernel)
theorem dX9_init_30 : decode cX9_init 30 = .ok (.sipush 6400, 3) := dq_17 (by decide +kernel)
theorem dX9_init_33 : decode cX9_init 33 = .ok (.newarray .boolean, 2) := dq_188_4 (by decide +kernel)
theorem dX9_init_35 : decode cX9_init 35 = .ok (.putfield 23, 3) := dq_181 (by decide +kernel)
theorem dX9_init_38 : decode cX9_init 38 = .ok (.aload_n 0, 1) := dq_42 (by decide +kernel)
theorem dX9_init_39 : decode cX9_init 39 = .ok (.sipush 6400, 3) := dq_17 (by decide +kernel)
theorem dX9_init_42 : decode cX9_init 42 = .ok (.newarray .int, 2) := dq_188_10 (by decide +kernel)
theorem dX9_init_44 : decode cX9_init 44 = .ok (.putfield 27, 3) := dq_181 (by decide +kernel)
theorem dX9_init_47 : decode cX9_init 47 = .ok (.aload_n 0, 1) := dq_42 (by decide +kernel)
theorem dX9_init_48 : decode cX9_init 48 = .ok (.sipush 6400, 3) := dq_17 (by decide +kernel)
theorem dX9_init_51 : decode cX9_init 51 = .ok (.newarray .int, 2) := dq_188_10 (by decide +kernel)
theorem dX9_init_53 : decode cX9_init 53 = .ok (.putfield 30, 3) := dq_181 (by decide +kernel)
theorem dX9_init_56 : decode cX9_init 56 = .ok (.aload_n 0, 1) := dq_42 (by decide +kernel)
theorem dX9_init_57 : decode cX9_init 57 = .ok (.sipush 6400, 3) := dq_17 (by decide +kernel)
theorem dX9_init_60 : decode cX9_init 60 = .ok (.newarray .boolean, 2) := dq_188_4 (by decide +kernel)
theorem dX9_init_62 : decode cX9_init 62 = .ok (.putfield 33, 3) := dq_181 (by decide +kernel)
theorem dX9_init_65 : decode cX9_init 65 = .ok (.aload_n 0, 1) := dq_42 (by decide +kernel)
theorem dX9_init_66 : decode cX9_init 66 = .ok (.sipush 6400, 3) := dq_17 (by decide +kernel)
theorem dX9_init_69 : decode cX9_init 69 = .ok (.newarray .boolean, 2) := dq_188_4 (by decide +kernel)
theorem dX9_init_71 : decode cX9_init 71 = .ok (.putfield 36, 3) := dq_181 (by decide +kernel)
theorem dX9_init_74 : decode cX9_init 74 = .ok (.aload_n 0, 1) := dq_42 (by decide +kernel)
theorem dX9_init_75 : decode cX9_init 75 = .ok (.sipush 6400, 3) := dq_17 (by decide +kernel)
theorem dX9_init_78 : decode cX9_init 78 = .ok (.newarray .int, 2) := dq_188_10 (by decide +kernel)
theorem dX9_init_80 : decode cX9_init 80 = .ok (.putfield 39, 3) := dq_181 (by decide +kernel)
theorem dX9_init_83 : decode cX9_init 83 = .ok (.aload_n 0, 1) := dq_42 (by decide +kernel)
theorem dX9_init_84 : decode cX9_init 84 = .ok (.bipush 60, 2) := dq_16 (by decide +kernel)
theorem dX9_init_86 : decode cX9_init 86 = .ok (.newarray .int, 2) := dq_188_10 (by decide +kernel)
theorem dX9_init_88 : decode cX9_init 88 = .ok (.putfield 42, 3) := dq_181 (by decide +kernel)
theorem dX9_init_91 : decode cX9_init 91 = .ok (.aload_n 0, 1) := dq_42 (by decide +kernel)
theorem dX9_init_92 : decode cX9_init 92 = .ok (.bipush 60, 2) := dq_16 (by decide +kernel)
theorem dX9_init_94 : decode cX9_init 94 = .ok (.newarray .int, 2) := dq_188_10 (by decide +kernel)
theorem dX9_init_96 : decode cX9_init 96 = .ok (.putfield 45, 3) := dq_181 (by decide +kernel)
theorem dX9_init_99 : decode cX9_init 99 = .ok (.aload_n 0, 1) := dq_42 (by decide +kernel)
theorem dX9_init_100 : decode cX9_init 100 = .ok (.bipush 60, 2) := dq_16 (by decide +kernel)
theorem dX9_init_102 : decode cX9_init 102 = .ok (.newarray .int, 2) := dq_188_10 (by decide +kernel)
theorem dX9_init_104 : decode cX9_init 104 = .ok (.putfield 48, 3) := dq_181 (by decide +kernel)
theorem dX9_init_107 : decode cX9_init 107 = .ok (.aload_n 0, 1) := dq_42 (by decide +kernel)
theorem dX9_init_108 : decode cX9_init 108 = .ok (.bipush 60, 2) := dq_16 (by decide +kernel)
theorem dX9_init_110 : decode cX9_init 110 = .ok (.newarray .int, 2) := dq_188_10 (by decide +kernel)
theorem dX9_init_112 : decode cX9_init 112 = .ok (.putfield 51, 3) := dq_181 (by decide +kernel)
theorem dX9_init_115 : decode cX9_init 115 = .ok (.aload_n 0, 1) := dq_42 (by decide +kernel)
theorem dX9_init_116 : decode cX9_init 116 = .ok (.bipush 60, 2) := dq_16 (by decide +kernel)
theorem dX9_init_118 : decode cX9_init 118 = .ok (.newarray .int, 2) := dq_188_10 (by decide +kernel)
theorem dX9_init_120 : decode cX9_init 120 = .ok (.putfield 54, 3) := dq_181 (by decide +kernel)
theorem dX9_init_123 : decode cX9_init 123 = .ok (.aload_n 0, 1) := dq_42 (by decide +kernel)
theorem dX9_init_124 : decode cX9_init 124 = .ok (.bipush 60, 2) := dq_16 (by decide +kernel)
theorem dX9_init_126 : decode cX9_init 126 = .ok (.newarray .int, 2) := dq_188_10 (by decide +kernel)
theorem dX9_init_128 : decode cX9_init 128 = .ok (.putfield 57, 3) := dq_181 (by decide +kernel)
theorem dX9_init_131 : decode cX9_init 131 = .ok (.aload_n 0, 1) := dq_42 (by decide +kernel)
theorem dX9_init_132 : decode cX9_init 132 = .ok (.bipush 60, 2) := dq_16 (by decide +kernel)
theorem dX9_init_134 : decode cX9_init 134 = .ok (.newarray .int, 2) := dq_188_10 (by decide +kernel)
theorem dX9_init_136 : decode cX9_init 136 = .ok (.putfield 60, 3) := dq_181 (by decide +kernel)
theorem dX9_init_139 : decode cX9_init 139 = .ok (.aload_n 0, 1) := dq_42 (by decide +kernel)
theorem dX9_init_140 : decode cX9_init 140 = .ok (.bipush 60, 2) := dq_16 (by decide +kernel)
theorem dX9_init_142 : decode cX9_init 142 = .ok (.newarray .int, 2) := dq_188_10 (by decide +kernel)
theorem dX9_init_144 : decode cX9_init 144 = .ok (.putfield 63, 3) := dq_181 (by decide +kernel)
theorem dX9_init_147 : decode cX9_init 147 = .ok (.aload_n 0, 1) := dq_42 (by decide +kernel)
theorem dX9_init_148 : decode cX9_init 148 = .ok (.bipush 120, 2) := dq_16 (by decide +kernel)
theorem dX9_init_150 : decode cX9_init 150 = .ok (.newarray .byte, 2) := dq_188_8 (by decide +kernel)
theorem dX9_init_152 : decode cX9_init 152 = .ok (.putfield 66, 3) := dq_181 (by decide +kernel)
theorem dX9_init_155 : decode cX9_init 155 = .ok (.aload_n 0, 1) := dq_42 (by decide +kernel)
theorem dX9_init_156 : decode cX9_init 156 = .ok (.iconst 2, 1) := dq_5 (by decide +kernel)
theorem dX9_init_157 : decode cX9_init 157 = .ok (.newarray .boolean, 2) := dq_188_4 (by decide +kernel)
theorem dX9_init_159 : decode cX9_init 159 = .ok (.putfield 70, 3) := dq_181 (by decide +kernel)
theorem dX9_init_162 : decode cX9_init 162 = .ok (.aload_n 0, 1) := dq_42 (by decide +kernel)
theorem dX9_init_163 : decode cX9_init 163 = .ok (.iconst 2, 1) := dq_5 (by decide +kernel)
theorem dX9_init_164 : decode cX9_init 164 = .ok (.newarray .int, 2) := dq_188_10 (by decide +kernel)
theorem dX9_init_166 : decode cX9_init 166 = .ok (.putfield 73, 3) := dq_181 (by decide +kernel)
theorem dX9_init_169 : decode cX9_init 169 = .ok (.aload_n 0, 1) := dq_42 (by decide +kernel)
theorem dX9_init_170 : decode cX9_init 170 = .ok (.sipush 384, 3) := dq_17 (by decide +kernel)
theorem dX9_init_173 : decode cX9_init 173 = .ok (.newarray .int, 2) := dq_188_10 (by decide +kernel)
theorem dX9_init_175 : decode cX9_init 175 = .ok (.putfield 76, 3) := dq_181 (by decide +kernel)
theorem dX9_init_178 : decode cX9_init 178 = .ok (.aload_n 0, 1) := dq_42 (by decide +kernel)
theorem dX9_init_179 : decode cX9_init 179 = .ok (.sipush 384, 3) := dq_17 (by decide +kernel)
theorem dX9_init_182 : decode cX9_init 182 = .ok (.newarray .int, 2) := dq_188_10 (by decide +kernel)
theorem dX9_init_184 : decode cX9_init 184 = .ok (.putfield 79, 3) := dq_181 (by decide +kernel)
theorem dX9_init_187 : decode cX9_init 187 = .ok (.aload_n 0, 1) := dq_42 (by decide +kernel)
theorem dX9_init_188 : decode cX9_init 188 = .ok (.sipush 130, 3) := dq_17 (by decide +kernel)
theorem dX9_init_191 : decode cX9_init 191 = .ok (.newarray .int, 2) := dq_188_10 (by decide +kernel)
theorem dX9_init_193 : decode cX9_init 193 = .ok (.putfield 82, 3) := dq_181 (by decide +kernel)
theorem dX9_init_196 : decode cX9_init 196 = .ok (.aload_n 0, 1) := dq_42 (by decide +kernel)
theorem dX9_init_197 : decode cX9_init 197 = .ok (.sipush 130, 3) := dq_17 (by decide +kernel)
theorem dX9_init_200 : decode cX9_init 200 = .ok (.newarray .int, 2) := dq_188_10 (by decide +kernel)
theorem dX9_init_202 : decode cX9_init 202 = .ok (.putfield 85, 3) := dq_181 (by decide +kernel)
theorem dX9_init_205 : decode cX9_init 205 = .ok (.aload_n 0, 1) := dq_42 (by decide +kernel)
theorem dX9_init_206 : decode cX9_init 206 = .ok (.bipush 24, 2) := dq_16 (by decide +kernel)
theorem dX9_init_208 : decode cX9_init 208 = .ok (.newarray .int, 2) := dq_188_10 (by decide +kernel)
theorem dX9_init_210 : decode cX9_init 210 = .ok (.putfield 88, 3) := dq_181 (by decide +kernel)
theorem dX9_init_213 : decode cX9_init 213 = .ok (.aload_n 0, 1) := dq_42 (by decide +kernel)
theorem dX9_init_214 : decode cX9_init 214 = .ok (.iconst 5, 1) := dq_8 (by decide +kernel)
theorem dX9_init_215 : decode cX9_init 215 = .ok (.newarray .int, 2) := dq_188_10 (by decide +kernel)
theorem dX9_init_217 : decode cX9_init 217 = .ok (.putfield 91, 3) := dq_181 (by decide +kernel)
theorem dX9_init_220 : decode cX9_init 220 = .ok (.aload_n 0, 1) := dq_42 (by decide +kernel)
theorem dX9_init_221 : decode cX9_init 221 = .ok (.iconst 5, 1) := dq_8 (by decide +kernel)
theorem dX9_init_222 : decode cX9_init 222 = .ok (.newarray .int, 2) := dq_188_10 (by decide +kernel)
theorem dX9_init_224 : decode cX9_init 224 = .ok (.putfield 94, 3) := dq_181 (by decide +kernel)
theorem dX9_init_227 : decode cX9_init 227 = .ok (.aload_n 0, 1) := dq_42 (by decide +kernel)
theorem dX9_init_228 : decode cX9_init 228 = .ok (.iconst 5, 1) := dq_8 (by decide +kernel)
theorem dX9_init_229 : decode cX9_init 229 = .ok (.newarray .int, 2) := dq_188_10 (by decide +kernel)
theorem dX9_init_231 : decode cX9_init 231 = .ok (.putfield 97, 3) := dq_181 (by decide +kernel)
theorem dX9_init_234 : decode cX9_init 234 = .ok (.aload_n 0, 1) := dq_42 (by decide +kernel)
theorem dX9_init_235 : decode cX9_init 235 = .ok (.bipush 15, 2) := dq_16 (by decide +kernel)
theorem dX9_init_237 : decode cX9_init 237 = .ok (.newarray .int, 2) := dq_188_10 (by decide +kernel)
theorem dX9_init_239 : decode cX9_init 239 = .ok (.putfield 100, 3) := dq_181 (by decide +kernel)
theorem dX9_init_242 : decode cX9_init 242 = .ok (.aload_n 0, 1) := dq_42 (by decide +kernel)
theorem dX9_init_243 : decode cX9_init 243 = .ok (.bipush 15, 2) := dq_16 (by decide +kernel)
theorem dX9_init_245 : decode cX9_init 245 = .ok (.newarray .int, 2) := dq_188_10 (by decide +kernel)
theorem dX9_init_247 : decode cX9_init 247 = .ok (.putfield 103, 3) := dq_181 (by decide +kernel)
theorem dX9_init_250 : decode cX9_init 250 = .ok (.aload_n 0, 1) := dq_42 (by decide +kernel)
theorem dX9_init_251 : decode cX9_init 251 = .ok (.bipush 15, 2) := dq_16 (by decide +kernel)
theorem dX9_init_253 : decode cX9_init 253 = .ok (.newarray .int, 2) := dq_188_10 (by decide +kernel)
theorem dX9_init_255 : decode cX9_init 255 = .ok (.putfield 106, 3) := dq_181 (by decide +kernel)
theorem dX9_init_258 : decode cX9_init 258 = .ok (.aload_n 0, 1) := dq_42 (by decide +kernel)
theorem dX9_init_259 : decode cX9_init 259 = .ok (.bipush 15, 2) := dq_16 (by decide +kernel)
theorem dX9_init_261 : decode cX9_init 261 = .ok (.newarray .int, 2) := dq_188_10 (by decide +kernel)
theorem dX9_init_263 : decode cX9_init 263 = .ok (.putfield 109, 3) := dq_181 (by decide +kernel)
theorem dX9_init_266 : decode cX9_init 266 = .ok (.aload_n 0, 1) := dq_42 (by decide +kernel)
theorem dX9_init_267 : decode cX9_init 267 = .ok (.bipush 15, 2) := dq_16 (by decide +kernel)
theorem dX9_init_269 : decode cX9_init 269 = .ok (.newarray .int, 2) := dq_188_10 (by decide +kernel)
theorem dX9_init_271 : decode cX9_init 271 = .ok (.putfield 112, 3) := dq_181 (by decide +kernel)
theorem dX9_init_274 : decode cX9_init 274 = .ok (.aload_n 0, 1) := dq_42 (by decide +kernel)
theorem dX9_init_275 : decode cX9_init 275 = .ok (.iconst 5, 1) := dq_8 (by decide +kernel)
theorem dX9_init_276 : decode cX9_init 276 = .ok (.newarray .int, 2) := dq_188_10 (by decide +kernel)
theorem dX9_init_278 : decode cX9_init 278 = .ok (.putfield 115, 3) := dq_181 (by decide +kernel)
theorem dX9_init_281 : decode cX9_init 281 = .ok (.aload_n 0, 1) := dq_42 (by decide +kernel)
theorem dX9_init_282 : decode cX9_init 282 = .ok (.sipush 200, 3) := dq_17 (by decide +kernel)
theorem dX9_init_285 : decode cX9_init 285 = .ok (.newarray .int, 2) := dq_188_10 (by decide +kernel)
theorem dX9_init_287 : decode cX9_init 287 = .ok (.putfield 118, 3) := dq_181 (by decide +kernel)
theorem dX9_init_290 : decode cX9_init 290 = .ok (.aload_n 0, 1) := dq_42 (by decide +kernel)
theorem dX9_init_291 : decode cX9_init 291 = .ok (.sipush 600, 3) := dq_17 (by decide +kernel)
theorem dX9_init_294 : decode cX9_init 294 = .ok (.newarray .int, 2) := dq_188_10 (by decide +kernel)
theorem dX9_init_296 : decode cX9_init 296 = .ok (.putfield 121, 3) := dq_181 (by decide +kernel)
theorem dX9_init_299 : decode cX9_init 299 = .ok (.aload_n 0, 1) := dq_42 (by decide +kernel)
theorem dX9_init_300 : decode cX9_init 300 = .ok (.iconst 3, 1) := dq_6 (by decide +kernel)
theorem dX9_init_301 : decode cX9_init 301 = .ok (.newarray .int, 2) := dq_188_10 (by decide +kernel)
theorem dX9_init_303 : decode cX9_init 303 = .ok (.putfield 124, 3) := dq_181 (by decide +kernel)
theorem dX9_init_306 : decode cX9_init 306 = .ok (.aload_n 0, 1) := dq_42 (by decide +kernel)
theorem dX9_init_307 : decode cX9_init 307 = .ok (.iconst 3, 1) := dq_6 (by decide +kernel)
theorem dX9_init_308 : decode cX9_init 308 = .ok (.newarray .int, 2) := dq_188_10 (by decide +kernel)
theorem dX9_init_310 : decode cX9_init 310 = .ok (.putfield 127, 3) := dq_181 (by decide +kernel)
theorem dX9_init_313 : decode cX9_init 313 = .ok (.aload_n 0, 1) := dq_42 (by decide +kernel)
theorem dX9_init_314 : decode cX9_init 314 = .ok (.iconst 3, 1) := dq_6 (by decide +kernel)
theorem dX9_init_315 : decode cX9_init 315 = .ok (.newarray .int, 2) := dq_188_10 (by decide +kernel)
theorem dX9_init_317 : decode cX9_init 317 = .ok (.putfield 130, 3) := dq_181 (by decide +kernel)
theorem dX9_init_320 : decode cX9_init 320 = .ok (.aload_n 0, 1) := dq_42 (by decide +kernel)
theorem dX9_init_321 : decode cX9_init 321 = .ok (.bipush 9, 2) := dq_16 (by decide +kernel)
theorem dX9_init_323 : decode cX9_init 323 = .ok (.newarray .int, 2) := dq_188_10 (by decide +kernel)
theorem dX9_init_325 : decode cX9_init 325 = .ok (.putfield 133, 3) := dq_181 (by decide +kernel)
theorem dX9_init_328 : decode cX9_init 328 = .ok (.aload_n 0, 1) := dq_42 (by decide +kernel)
theorem dX9_init_329 : decode cX9_init 329 = .ok (.bipush 9, 2) := dq_16 (by decide +kernel)
theorem dX9_init_331 : decode cX9_init 331 = .ok (.newarray .int, 2) := dq_188_10 (by decide +kernel)
theorem dX9_init_333 : decode cX9_init 333 = .ok (.putfield 136, 3) := dq_181 (by decide +kernel)
theorem dX9_init_336 : decode cX9_init 336 = .ok (.aload_n 0, 1) := dq_42 (by decide +kernel)
theorem dX9_init_337 : decode cX9_init 337 = .ok (.bipush 9, 2) := dq_16 (by decide +kernel)
theorem dX9_init_339 : decode cX9_init 339 = .ok (.newarray .int, 2) := dq_188_10 (by decide +kernel)
theorem dX9_init_341 : decode cX9_init 341 = .ok (.putfield 139, 3) := dq_181 (by decide +kernel)
theorem dX9_init_344 : decode cX9_init 344 = .ok (.aload_n 0, 1) := dq_42 (by decide +kernel)
theorem dX9_init_345 : decode cX9_init 345 = .ok (.iconst 3, 1) := dq_6 (by decide +kernel)
theorem dX9_init_346 : decode cX9_init 346 = .ok (.newarray .int, 2) := dq_188_10 (by decide +kernel)
theorem dX9_init_348 : decode cX9_init 348 = .ok (.putfield 142, 3) := dq_181 (by decide +kernel)
theorem dX9_init_351 : decode cX9_init 351 = .ok (.aload_n 0, 1) := dq_42 (by decide +kernel)
theorem dX9_init_352 : decode cX9_init 352 = .ok (.iconst 3, 1) := dq_6 (by decide +kernel)
theorem dX9_init_353 : decode cX9_init 353 = .ok (.newarray .int, 2) := dq_188_10 (by decide +kernel)
theorem dX9_init_355 : decode cX9_init 355 = .ok (.putfield 145, 3) := dq_181 (by decide +kernel)
theorem dX9_init_358 : decode cX9_init 358 = .ok (.iconst 0, 1) := dq_3 (by decide +kernel)
theorem dX9_init_359 : decode cX9_init 359 = .ok (.istore_n 1, 1) := dq_60 (by decide +kernel)
theorem dX9_init_360 : decode cX9_init 360 = .ok (.iload_n 1, 1) := dq_27 (by decide +kernel)
theorem dX9_init_361 : decode cX9_init 361 = .ok (.sipush 400, 3) := dq_17 (by decide +kernel)
theorem dX9_init_364 : decode cX9_init 364 = .ok (.if_icmp .ge 18, 3) := dq_162 (by decide +kernel)
theorem dX9_init_367 : decode cX9_init 367 = .ok (.aload_n 0, 1) := dq_42 (by decide +kernel)
theorem dX9_init_368 : decode cX9_init 368 = .ok (.getfield 13, 3) := dq_180 (by decide +kernel)
theorem dX9_init_371 : decode cX9_init 371 = .ok (.iload_n 1, 1) := dq_27 (by decide +kernel)
theorem dX9_init_372 : decode cX9_init 372 = .ok (.sipush (-1000), 3) := dq_17 (by decide +kernel)
theorem dX9_init_375 : decode cX9_init 375 = .ok (.iastore, 1) := dq_79 (by decide +kernel)
theorem dX9_init_376 : decode cX9_init 376 = .ok (.iinc 1 1, 3) := dq_132 (by decide +kernel)
theorem dX9_init_379 : decode cX9_init 379 = .ok (.goto (-19), 3) := dq_167 (by decide +kernel)
theorem dX9_init_382 : decode cX9_init 382 = .ok (.iconst 0, 1) := dq_3 (by decide +kernel)
theorem dX9_init_383 : decode cX9_init 383 = .ok (.istore_n 1, 1) := dq_60 (by decide +kernel)
theorem dX9_init_384 : decode cX9_init 384 = .ok (.iload_n 1, 1) := dq_27 (by decide +kernel)
theorem dX9_init_385 : decode cX9_init 385 = .ok (.bipush 16, 2) := dq_16 (by decide +kernel)
theorem dX9_init_387 : decode cX9_init 387 = .ok (.if_icmp .ge 17, 3) := dq_162 (by decide +kernel)
theorem dX9_init_390 : decode cX9_init 390 = .ok (.aload_n 0, 1) := dq_42 (by decide +kernel)
theorem dX9_init_391 : decode cX9_init 391 = .ok (.getfield 17, 3) := dq_180 (by decide +kernel)
theorem dX9_init_394 : decode cX9_init 394 = .ok (.iload_n 1, 1) := dq_27 (by decide +kernel)
theorem dX9_init_395 : decode cX9_init 395 = .ok (.bipush (-5), 2) := dq_16 (by decide +kernel)
theorem dX9_init_397 : decode cX9_init 397 = .ok (.iastore, 1) := dq_79 (by decide +kernel)
theorem dX9_init_398 : decode cX9_init 398 = .ok (.iinc 1 1, 3) := dq_132 (by decide +kernel)
theorem dX9_init_401 : decode cX9_init 401 = .ok (.goto (-17), 3) := dq_167 (by decide +kernel)
theorem dX9_init_404 : decode cX9_init 404 = .ok (.return_, 1) := dq_177 (by decide +kernel)
theorem dX9_isDay_0 : decode cX9_isDay 0 = .ok (.iload_n 0, 1) := dq_26 (by decide +kernel)
theorem dX9_isDay_1 : decode cX9_isDay 1 = .ok (.iconst 0, 1) := dq_3 (by decide +kernel)
theorem dX9_isDay_2 : decode cX9_isDay 2 = .ok (.sipush 399, 3) := dq_17 (by decide +kernel)
theorem dX9_isDay_5 : decode cX9_isDay 5 = .ok (.invokestatic 148, 3) := dq_184 (by decide +kernel)
theorem dX9_isDay_8 : decode cX9_isDay 8 = .ok (.ireturn, 1) := dq_172 (by decide +kernel)
theorem dX9_isDigit_0 : decode cX9_isDigit 0 = .ok (.iload_n 0, 1) := dq_26 (by decide +kernel)
theorem dX9_isDigit_1 : decode cX9_isDigit 1 = .ok (.bipush 48, 2) := dq_16 (by decide +kernel)
theorem dX9_isDigit_3 : decode cX9_isDigit 3 = .ok (.if_icmp .lt 13, 3) := dq_161 (by decide +kernel)
theorem dX9_isDigit_6 : decode cX9_isDigit 6 = .ok (.iload_n 0, 1) := dq_26 (by decide +kernel)
theorem dX9_isDigit_7 : decode cX9_isDigit 7 = .ok (.bipush 57, 2) := dq_16 (by decide +kernel)
theorem dX9_isDigit_9 : decode cX9_isDigit 9 = .ok (.if_icmp .gt 7, 3) := dq_163 (by decide +kernel)
theorem dX9_isDigit_12 : decode cX9_isDigit 12 = .ok (.iconst 1, 1) := dq_4 (by decide +kernel)
theorem dX9_isDigit_13 : decode cX9_isDigit 13 = .ok (.goto 4, 3) := dq_167 (by decide +kernel)
theorem dX9_isDigit_16 : decode cX9_isDigit 16 = .ok (.iconst 0, 1) := dq_3 (by decide +kernel)
theorem dX9_isDigit_17 : decode cX9_isDigit 17 = .ok (.ireturn, 1) := dq_172 (by decide +kernel)
theorem dX9_isKnown_0 : decode cX9_isKnown 0 = .ok (.iload_n 0, 1) := dq_26 (by decide +kernel)
theorem dX9_isKnown_1 : decode cX9_isKnown 1 = .ok (.iconst (-1), 1) := dq_2 (by decide +kernel)
theorem dX9_isKnown_2 : decode cX9_isKnown 2 = .ok (.sipush 399, 3) := dq_17 (by decide +kernel)
theorem dX9_isKnown_5 : decode cX9_isKnown 5 = .ok (.invokestatic 148, 3) := dq_184 (by decide +kernel)
theorem dX9_isKnown_8 : decode cX9_isKnown 8 = .ok (.ireturn, 1) := dq_172 (by decide +kernel)
theorem dX9_isLetter_0 : decode cX9_isLetter 0 = .ok (.iload_n 0, 1) := dq_26 (by decide +kernel)
theorem dX9_isLetter_1 : decode cX9_isLetter 1 = .ok (.bipush 97, 2) := dq_16 (by decide +kernel)
theorem dX9_isLetter_3 : decode cX9_isLetter 3 = .ok (.if_icmp .lt 13, 3) := dq_161 (by decide +kernel)
theorem dX9_isLetter_6 : decode cX9_isLetter 6 = .ok (.iload_n 0, 1) := dq_26 (by decide +kernel)
theorem dX9_isLetter_7 : decode cX9_isLetter 7 = .ok (.bipush 122, 2) := dq_16 (by decide +kernel)
theorem dX9_isLetter_9 : decode cX9_isLetter 9 = .ok (.if_icmp .gt 7, 3) := dq_163 (by decide +kernel)
theorem dX9_isLetter_12 : decode cX9_isLetter 12 = .ok (.iconst 1, 1) := dq_4 (by decide +kernel)
theorem dX9_isLetter_13 : decode cX9_isLetter 13 = .ok (.goto 4, 3) := dq_167 (by decide +kernel)
theorem dX9_isLetter_16 : decode cX9_isLetter 16 = .ok (.iconst 0, 1) := dq_3 (by decide +kernel)
theorem dX9_isLetter_17 : decode cX9_isLetter 17 = .ok (.ireturn, 1) := dq_172 (by decide +kernel)
theorem dX9_isPlace_0 : decode cX9_isPlace 0 = .ok (.iload_n 0, 1) := dq_26 (by decide +kernel)
theorem dX9_isPlace_1 : decode cX9_isPlace 1 = .ok (.iconst 0, 1) := dq_3 (by decide +kernel)
theorem dX9_isPlace_2 : decode cX9_isPlace 2 = .ok (.bipush 15, 2) := dq_16 (by decide +kernel)
theorem dX9_isPlace_4 : decode cX9_isPlace 4 = .ok (.invokestatic 148, 3) := dq_184 (by decide +kernel)
theorem dX9_isPlace_7 : decode cX9_isPlace 7 = .ok (.ireturn, 1) := dq_172 (by decide +kernel)
theorem dX9_isShip_0 : decode cX9_isShip 0 = .ok (.iload_n 0, 1) := dq_26 (by decide +kernel)
theorem dX9_isShip_1 : decode cX9_isShip 1 = .ok (.iconst 0, 1) := dq_3 (by decide +kernel)
theorem dX9_isShip_2 : decode cX9_isShip 2 = .ok (.iconst 4, 1) := dq_7 (by decide +kernel)
theorem dX9_isShip_3 : decode cX9_isShip 3 = .ok (.invokestatic 148, 3) := dq_184 (by decide +kernel)
theorem dX9_isShip_6 : decode cX9_isShip 6 = .ok (.ireturn, 1) := dq_172 (by decide +kernel)
theorem dX9_isShown_0 : decode cX9_isShown 0 = .ok (.iload_n 0, 1) := dq_26 (by decide +kernel)
theorem dX9_isShown_1 : decode cX9_isShown 1 = .ok (.ldc_w 395, 3) := dq_19 (by decide +kernel)
theorem dX9_isShown_4 : decode cX9_isShown 4 = .ok (.ldc_w 396, 3) := dq_19 (by decide +kernel)
theorem dX9_isShown_7 : decode cX9_isShown 7 = .ok (.invokestatic 148, 3) := dq_184 (by decide +kernel)
theorem dX9_isShown_10 : decode cX9_isShown 10 = .ok (.ireturn, 1) := dq_172 (by decide +kernel)
theorem dX9_isWatch_0 : decode cX9_isWatch 0 = .ok (.aload_n 0, 1) := dq_42 (by decide +kernel)
theorem dX9_isWatch_1 : decode cX9_isWatch 1 = .ok (.getfield 17, 3) := dq_180 (by decide +kernel)
theorem dX9_isWatch_4 : decode cX9_isWatch 4 = .ok (.iload_n 1, 1) := dq_27 (by decide +kernel)
theorem dX9_isWatch_5 : decode cX9_isWatch 5 = .ok (.iaload, 1) := dq_46 (by decide +kernel)
theorem dX9_isWatch_6 : decode cX9_isWatch 6 = .ok (.ifCond .eq 13, 3) := dq_153 (by decide +kernel)
theorem dX9_isWatch_9 : decode cX9_isWatch 9 = .ok (.aload_n 0, 1) := dq_42 (by decide +kernel)
theorem dX9_isWatch_10 : decode cX9_isWatch 10 = .ok (.getfield 17, 3) := dq_180 (by decide +kernel)
theorem dX9_isWatch_13 : decode cX9_isWatch 13 = .ok (.iload_n 1, 1) := dq_27 (by decide +kernel)
theorem dX9_isWatch_14 : decode cX9_isWatch 14 = .ok (.iaload, 1) := dq_46 (by decide +kernel)
theorem dX9_isWatch_15 : decode cX9_isWatch 15 = .ok (.iconst 1, 1) := dq_4 (by decide +kernel)
theorem dX9_isWatch_16 : decode cX9_isWatch 16 = .ok (.if_icmp .ne 7, 3) := dq_160 (by decide +kernel)
theorem dX9_isWatch_19 : decode cX9_isWatch 19 = .ok (.iconst 1, 1) := dq_4 (by decide +kernel)
theorem dX9_isWatch_20 : decode cX9_isWatch 20 = .ok (.goto 4, 3) := dq_167 (by decide +kernel)
theorem dX9_isWatch_23 : decode cX9_isWatch 23 = .ok (.iconst 0, 1) := dq_3 (by decide +kernel)
theorem dX9_isWatch_24 : decode cX9_isWatch 24 = .ok (.ireturn, 1) := dq_172 (by decide +kernel)
theorem dX9_isWay_0 : decode cX9_isWay 0 = .ok (.iconst 0, 1) := dq_3 (by decide +kernel)
theorem dX9_isWay_1 : decode cX9_isWay 1 = .ok (.istore_n 2, 1) := dq_61 (by decide +kernel)
theorem dX9_isWay_2 : decode cX9_isWay 2 = .ok (.iload_n 2, 1) := dq_28 (by decide +kernel)
theorem dX9_isWay_3 : decode cX9_isWay 3 = .ok (.iconst 3, 1) := dq_6 (by decide +kernel)
theorem dX9_isWay_4 : decode cX9_isWay 4 = .ok (.if_icmp .ge 16, 3) := dq_162 (by decide +kernel)
theorem dX9_isWay_7 : decode cX9_isWay 7 = .ok (.aload_n 0, 1) := dq_42 (by decide +kernel)
theorem dX9_isWay_8 : decode cX9_isWay 8 = .ok (.getfield 145, 3) := dq_180 (by decide +kernel)
theorem dX9_isWay_11 : decode cX9_isWay 11 = .ok (.iload_n 2, 1) := dq_28 (by decide +kernel)
theorem dX9_isWay_12 : decode cX9_isWay 12 = .ok (.iconst 0, 1) := dq_3 (by decide +kernel)
theorem dX9_isWay_13 : decode cX9_isWay 13 = .ok (.iastore, 1) := dq_79 (by decide +kernel)
theorem dX9_isWay_14 : decode cX9_isWay 14 = .ok (.iinc 2 1, 3) := dq_132 (by decide +kernel)
theorem dX9_isWay_17 : decode cX9_isWay 17 = .ok (.goto (-15), 3) := dq_167 (by decide +kernel)
theorem dX9_isWay_20 : decode cX9_isWay 20 = .ok (.iconst 0, 1) := dq_3 (by decide +kernel)
theorem dX9_isWay_21 : decode cX9_isWay 21 = .ok (.istore_n 2, 1) := dq_61 (by decide +kernel)
theorem dX9_isWay_22 : decode cX9_isWay 22 = .ok (.iload_n 2, 1) := dq_28 (by decide +kernel)
theorem dX9_isWay_23 : decode cX9_isWay 23 = .ok (.aload_n 0, 1) := dq_42 (by decide +kernel)
theorem dX9_isWay_24 : decode cX9_isWay 24 = .ok (.getfield 406, 3) := dq_180 (by decide +kernel)
theorem dX9_isWay_27 : decode cX9_isWay 27 = .ok (.if_icmp .ge 49, 3) := dq_162 (by decide +kernel)
theorem dX9_isWay_30 : decode cX9_isWay 30 = .ok (.aload_n 0, 1) := dq_42 (by decide +kernel)
theorem dX9_isWay_31 : decode cX9_isWay 31 = .ok (.getfield 139, 3) := dq_180 (by decide +kernel)
theorem dX9_isWay_34 : decode cX9_isWay 34 = .ok (.iload_n 2, 1) := dq_28 (by decide +kernel)
theorem dX9_isWay_35 : decode cX9_isWay 35 = .ok (.iaload, 1) := dq_46 (by decide +kernel)
theorem dX9_isWay_36 : decode cX9_isWay 36 = .ok (.iconst 3, 1) := dq_6 (by decide +kernel)
theorem dX9_isWay_37 : decode cX9_isWay 37 = .ok (.if_icmp .ne 6, 3) := dq_160 (by decide +kernel)
theorem dX9_isWay_40 : decode cX9_isWay 40 = .ok (.goto 30, 3) := dq_167 (by decide +kernel)
theorem dX9_isWay_43 : decode cX9_isWay 43 = .ok (.aload_n 0, 1) := dq_42 (by decide +kernel)
theorem dX9_isWay_44 : decode cX9_isWay 44 = .ok (.getfield 139, 3) := dq_180 (by decide +kernel)
theorem dX9_isWay_47 : decode cX9_isWay 47 = .ok (.iload_n 2, 1) := dq_28 (by decide +kernel)
theorem dX9_isWay_48 : decode cX9_isWay 48 = .ok (.iaload, 1) := dq_46 (by decide +kernel)
theorem dX9_isWay_49 : decode cX9_isWay 49 = .ok (.iload_n 1, 1) := dq_27 (by decide +kernel)
theorem dX9_isWay_50 : decode cX9_isWay 50 = .ok (.if_icmp .lt 5, 3) := dq_161 (by decide +kernel)
theorem dX9_isWay_53 : decode cX9_isWay 53 = .ok (.iconst 0, 1) := dq_3 (by decide +kernel)
theorem dX9_isWay_54 : decode cX9_isWay 54 = .ok (.ireturn, 1) := dq_172 (by decide +kernel)
theorem dX9_isWay_55 : decode cX9_isWay 55 = .ok (.aload_n 0, 1) := dq_42 (by decide +kernel)
theorem dX9_isWay_56 : decode cX9_isWay 56 = .ok (.getfield 145, 3) := dq_180 (by decide +kernel)
theorem dX9_isWay_59 : decode cX9_isWay 59 = .ok (.aload_n 0, 1) := dq_42 (by decide +kernel)
theorem dX9_isWay_60 : decode cX9_isWay 60 = .ok (.getfield 139, 3) := dq_180 (by decide +kernel)
theorem dX9_isWay_63 : decode cX9_isWay 63 = .ok (.iload_n 2, 1) := dq_28 (by decide +kernel)
theorem dX9_isWay_64 : decode cX9_isWay 64 = .ok (.iaload, 1) := dq_46 (by decide +kernel)
theorem dX9_isWay_65 : decode cX9_isWay 65 = .ok (.dup2, 1) := dq_92 (by decide +kernel)
theorem dX9_isWay_66 : decode cX9_isWay 66 = .ok (.iaload, 1) := dq_46 (by decide +kernel)
theorem dX9_isWay_67 : decode cX9_isWay 67 = .ok (.iconst 1, 1) := dq_4 (by decide +kernel)
theorem dX9_isWay_68 : decode cX9_isWay 68 = .ok (.iadd, 1) := dq_96 (by decide +kernel)
theorem dX9_isWay_69 : decode cX9_isWay 69 = .ok (.iastore, 1) := dq_79 (by decide +kernel)
theorem dX9_isWay_70 : decode cX9_isWay 70 = .ok (.iinc 2 1, 3) := dq_132 (by decide +kernel)
theorem dX9_isWay_73 : decode cX9_isWay 73 = .ok (.goto (-51), 3) := dq_167 (by decide +kernel)
theorem dX9_isWay_76 : decode cX9_isWay 76 = .ok (.iconst 0, 1) := dq_3 (by decide +kernel)
theorem dX9_isWay_77 : decode cX9_isWay 77 = .ok (.istore_n 2, 1) := dq_61 (by decide +kernel)
theorem dX9_isWay_78 : decode cX9_isWay 78 = .ok (.iload_n 2, 1) := dq_28 (by decide +kernel)
theorem dX9_isWay_79 : decode cX9_isWay 79 = .ok (.iload_n 1, 1) := dq_27 (by decide +kernel)
theorem dX9_isWay_80 : decode cX9_isWay 80 = .ok (.if_icmp .ge 21, 3) := dq_162 (by decide +kernel)
theorem dX9_isWay_83 : decode cX9_isWay 83 = .ok (.aload_n 0, 1) := dq_42 (by decide +kernel)
theorem dX9_isWay_84 : decode cX9_isWay 84 = .ok (.getfield 145, 3) := dq_180 (by decide +kernel)
theorem dX9_isWay_87 : decode cX9_isWay 87 = .ok (.iload_n 2, 1) := dq_28 (by decide +kernel)
theorem dX9_isWay_88 : decode cX9_isWay 88 = .ok (.iaload, 1) := dq_46 (by decide +kernel)
theorem dX9_isWay_89 : decode cX9_isWay 89 = .ok (.iconst 3, 1) := dq_6 (by decide +kernel)
theorem dX9_isWay_90 : decode cX9_isWay 90 = .ok (.if_icmp .eq 5, 3) := dq_159 (by decide +kernel)
theorem dX9_isWay_93 : decode cX9_isWay 93 = .ok (.iconst 0, 1) := dq_3 (by decide +kernel)
theorem dX9_isWay_94 : decode cX9_isWay 94 = .ok (.ireturn, 1) := dq_172 (by decide +kernel)
theorem dX9_isWay_95 : decode cX9_isWay 95 = .ok (.iinc 2 1, 3) := dq_132 (by decide +kernel)
theorem dX9_isWay_98 : decode cX9_isWay 98 = .ok (.goto (-20), 3) := dq_167 (by decide +kernel)
theorem dX9_isWay_101 : decode cX9_isWay 101 = .ok (.iconst 1, 1) := dq_4 (by decide +kernel)
theorem dX9_isWay_102 : decode cX9_isWay 102 = .ok (.ireturn, 1) := dq_172 (by decide +kernel)
theorem dX9_jump_0 : decode cX9_jump 0 = .ok (.iload 4, 2) := dq_21 (by decide +kernel)
theorem dX9_jump_2 : decode cX9_jump 2 = .ok (.iconst 0, 1) := dq_3 (by decide +kernel)
theorem dX9_jump_3 : decode cX9_jump 3 = .ok (.sipush 2000, 3) := dq_17 (by decide +kernel)
theorem dX9_jump_6 : decode cX9_jump 6 = .ok (.invokestatic 148, 3) := dq_184 (by decide +kernel)
theorem dX9_jump_9 : decode cX9_jump 9 = .ok (.ifCond .ne 5, 3) := dq_154 (by decide +kernel)
theorem dX9_jump_12 : decode cX9_jump 12 = .ok (.iconst (-1), 1) := dq_2 (by decide +kernel)
theorem dX9_jump_13 : decode cX9_jump 13 = .ok (.ireturn, 1) := dq_172 (by decide +kernel)
theorem dX9_jump_14 : decode cX9_jump 14 = .ok (.aload_n 0, 1) := dq_42 (by decide +kernel)
theorem dX9_jump_15 : decode cX9_jump 15 = .ok (.iload_n 1, 1) := dq_27 (by decide +kernel)
theorem dX9_jump_16 : decode cX9_jump 16 = .ok (.iload_n 2, 1) := dq_28 (by decide +kernel)
theorem dX9_jump_17 : decode cX9_jump 17 = .ok (.iload_n 3, 1) := dq_29 (by decide +kernel)
theorem dX9_jump_18 : decode cX9_jump 18 = .ok (.invokevirtual 242, 3) := dq_182 (by decide +kernel)
theorem dX9_jump_21 : decode cX9_jump 21 = .ok (.istore 5, 2) := dq_54 (by decide +kernel)
theorem dX9_jump_23 : decode cX9_jump 23 = .ok (.iload 5, 2) := dq_21 (by decide +kernel)
theorem dX9_jump_25 : decode cX9_jump 25 = .ok (.ifCond .ge 6, 3) := dq_156 (by decide +kernel)
theorem dX9_jump_28 : decode cX9_jump 28 = .ok (.iload 5, 2) := dq_21 (by decide +kernel)
theorem dX9_jump_30 : decode cX9_jump 30 = .ok (.ireturn, 1) := dq_172 (by decide +kernel)
theorem dX9_jump_31 : decode cX9_jump 31 = .ok (.aload_n 0, 1) := dq_42 (by decide +kernel)
theorem dX9_jump_32 : decode cX9_jump 32 = .ok (.iload_n 1, 1) := dq_27 (by decide +kernel)
theorem dX9_jump_33 : decode cX9_jump 33 = .ok (.iload_n 2, 1) := dq_28 (by decide +kernel)
theorem dX9_jump_34 : decode cX9_jump 34 = .ok (.iload_n 3, 1) := dq_29 (by decide +kernel)
theorem dX9_jump_35 : decode cX9_jump 35 = .ok (.invokevirtual 281, 3) := dq_182 (by decide +kernel)
theorem dX9_jump_38 : decode cX9_jump 38 = .ok (.iconst (-1), 1) := dq_2 (by decide +kernel)
theorem dX9_jump_39 : decode cX9_jump 39 = .ok (.istore 6, 2) := dq_54 (by decide +kernel)
theorem dX9_jump_41 : decode cX9_jump 41 = .ok (.iload 4, 2) := dq_21 (by decide +kernel)
theorem dX9_jump_43 : decode cX9_jump 43 = .ok (.istore 7, 2) := dq_54 (by decide +kernel)
theorem dX9_jump_45 : decode cX9_jump 45 = .ok (.iconst 0, 1) := dq_3 (by decide +kernel)
theorem dX9_jump_46 : decode cX9_jump 46 = .ok (.istore 8, 2) := dq_54 (by decide +kernel)
theorem dX9_jump_48 : decode cX9_jump 48 = .ok (.iload 8, 2) := dq_21 (by decide +kernel)
theorem dX9_jump_50 : decode cX9_jump 50 = .ok (.aload_n 0, 1) := dq_42 (by decide +kernel)
theorem dX9_jump_51 : decode cX9_jump 51 = .ok (.getfield 278, 3) := dq_180 (by decide +kernel)
theorem dX9_jump_54 : decode cX9_jump 54 = .ok (.if_icmp .ge 58, 3) := dq_162 (by decide +kernel)
theorem dX9_jump_57 : decode cX9_jump 57 = .ok (.aload_n 0, 1) := dq_42 (by decide +kernel)
theorem dX9_jump_58 : decode cX9_jump 58 = .ok (.getfield 60, 3) := dq_180 (by decide +kernel)
theorem dX9_jump_61 : decode cX9_jump 61 = .ok (.iload 8, 2) := dq_21 (by decide +kernel)
theorem dX9_jump_63 : decode cX9_jump 63 = .ok (.iaload, 1) := dq_46 (by decide +kernel)
theorem dX9_jump_64 : decode cX9_jump 64 = .ok (.aload_n 0, 1) := dq_42 (by decide +kernel)
theorem dX9_jump_65 : decode cX9_jump 65 = .ok (.getfield 63, 3) := dq_180 (by decide +kernel)
theorem dX9_jump_68 : decode cX9_jump 68 = .ok (.aload_n 0, 1) := dq_42 (by decide +kernel)
theorem dX9_jump_69 : decode cX9_jump 69 = .ok (.getfield 278, 3) := dq_180 (by decide +kernel)
theorem dX9_jump_72 : decode cX9_jump 72 = .ok (.iconst 1, 1) := dq_4 (by decide +kernel)
theorem dX9_jump_73 : decode cX9_jump 73 = .ok (.isub, 1) := dq_100 (by decide +kernel)
theorem dX9_jump_74 : decode cX9_jump 74 = .ok (.iconst 2, 1) := dq_5 (by decide +kernel)
theorem dX9_jump_75 : decode cX9_jump 75 = .ok (.idiv, 1) := dq_108 (by decide +kernel)
theorem dX9_jump_76 : decode cX9_jump 76 = .ok (.iaload, 1) := dq_46 (by decide +kernel)
theorem dX9_jump_77 : decode cX9_jump 77 = .ok (.isub, 1) := dq_100 (by decide +kernel)
theorem dX9_jump_78 : decode cX9_jump 78 = .ok (.invokestatic 182, 3) := dq_184 (by decide +kernel)
theorem dX9_jump_81 : decode cX9_jump 81 = .ok (.istore 9, 2) := dq_54 (by decide +kernel)
theorem dX9_jump_83 : decode cX9_jump 83 = .ok (.iload 9, 2) := dq_21 (by decide +kernel)
theorem dX9_jump_85 : decode cX9_jump 85 = .ok (.iload 7, 2) := dq_21 (by decide +kernel)
theorem dX9_jump_87 : decode cX9_jump 87 = .ok (.if_icmp .gt 6, 3) := dq_163 (by decide +kernel)
theorem dX9_jump_90 : decode cX9_jump 90 = .ok (.goto 16, 3) := dq_167 (by decide +kernel)
theorem dX9_jump_93 : decode cX9_jump 93 = .ok (.iload 9, 2) := dq_21 (by decide +kernel)
theorem dX9_jump_95 : decode cX9_jump 95 = .ok (.istore 7, 2) := dq_54 (by decide +kernel)
theorem dX9_jump_97 : decode cX9_jump 97 = .ok (.aload_n 0, 1) := dq_42 (by decide +kernel)
theorem dX9_jump_98 : decode cX9_jump 98 = .ok (.getfield 57, 3) := dq_180 (by decide +kernel)
theorem dX9_jump_101 : decode cX9_jump 101 = .ok (.iload 8, 2) := dq_21 (by decide +kernel)
theorem dX9_jump_103 : decode cX9_jump 103 = .ok (.iaload, 1) := dq_46 (by decide +kernel)
theorem dX9_jump_104 : decode cX9_jump 104 = .ok (.istore 6, 2) := dq_54 (by decide +kernel)
theorem dX9_jump_106 : decode cX9_jump 106 = .ok (.iinc 8 1, 3) := dq_132 (by decide +kernel)
theorem dX9_jump_109 : decode cX9_jump 109 = .ok (.goto (-61), 3) := dq_167 (by decide +kernel)
theorem dX9_jump_112 : decode cX9_jump 112 = .ok (.iload 6, 2) := dq_21 (by decide +kernel)
theorem dX9_jump_114 : decode cX9_jump 114 = .ok (.ifCond .ge 8, 3) := dq_156 (by decide +kernel)
theorem dX9_jump_117 : decode cX9_jump 117 = .ok (.bipush (-4), 2) := dq_16 (by decide +kernel)
theorem dX9_jump_119 : decode cX9_jump 119 = .ok (.goto 5, 3) := dq_167 (by decide +kernel)
theorem dX9_jump_122 : decode cX9_jump 122 = .ok (.iload 6, 2) := dq_21 (by decide +kernel)
theorem dX9_jump_124 : decode cX9_jump 124 = .ok (.ireturn, 1) := dq_172 (by decide +kernel)
theorem dX9_late_0 : decode cX9_late 0 = .ok (.iload_n 1, 1) := dq_27 (by decide +kernel)
theorem dX9_late_1 : decode cX9_late 1 = .ok (.invokestatic 152, 3) := dq_184 (by decide +kernel)
theorem dX9_late_4 : decode cX9_late 4 = .ok (.ifCond .eq 15, 3) := dq_153 (by decide +kernel)
theorem dX9_late_7 : decode cX9_late 7 = .ok (.iload_n 2, 1) := dq_28 (by decide +kernel)
theorem dX9_late_8 : decode cX9_late 8 = .ok (.iconst 0, 1) := dq_3 (by decide +kernel)
theorem dX9_late_9 : decode cX9_late 9 = .ok (.aload_n 0, 1) := dq_42 (by decide +kernel)
theorem dX9_late_10 : decode cX9_late 10 = .ok (.getfield 156, 3) := dq_180 (by decide +kernel)
theorem dX9_late_13 : decode cX9_late 13 = .ok (.invokestatic 148, 3) := dq_184 (by decide +kernel)
theorem dX9_late_16 : decode cX9_late 16 = .ok (.ifCond .ne 5, 3) := dq_154 (by decide +kernel)
theorem dX9_late_19 : decode cX9_late 19 = .ok (.iconst (-1), 1) := dq_2 (by decide +kernel)
theorem dX9_late_20 : decode cX9_late 20 = .ok (.ireturn, 1) := dq_172 (by decide +kernel)
theorem dX9_late_21 : decode cX9_late 21 = .ok (.aload_n 0, 1) := dq_42 (by decide +kernel)
theorem dX9_late_22 : decode cX9_late 22 = .ok (.iload_n 1, 1) := dq_27 (by decide +kernel)
theorem dX9_late_23 : decode cX9_late 23 = .ok (.invokevirtual 172, 3) := dq_182 (by decide +kernel)
theorem dX9_late_26 : decode cX9_late 26 = .ok (.istore_n 3, 1) := dq_62 (by decide +kernel)
theorem dX9_late_27 : decode cX9_late 27 = .ok (.iload_n 3, 1) := dq_29 (by decide +kernel)
theorem dX9_late_28 : decode cX9_late 28 = .ok (.ifCond .ge 5, 3) := dq_156 (by decide +kernel)
theorem dX9_late_31 : decode cX9_late 31 = .ok (.iload_n 3, 1) := dq_29 (by decide +kernel)
theorem dX9_late_32 : decode cX9_late 32 = .ok (.ireturn, 1) := dq_172 (by decide +kernel)
theorem dX9_late_33 : decode cX9_late 33 = .ok (.aload_n 0, 1) := dq_42 (by decide +kernel)
theorem dX9_late_34 : decode cX9_late 34 = .ok (.getfield 36, 3) := dq_180 (by decide +kernel)
theorem dX9_late_37 : decode cX9_late 37 = .ok (.sipush 400, 3) := dq_17 (by decide +kernel)
theorem dX9_late_40 : decode cX9_late 40 = .ok (.iload_n 1, 1) := dq_27 (by decide +kernel)
theorem dX9_late_41 : decode cX9_late 41 = .ok (.imul, 1) := dq_104 (by decide +kernel)
theorem dX9_late_42 : decode cX9_late 42 = .ok (.iload_n 2, 1) := dq_28 (by decide +kernel)
theorem dX9_late_43 : decode cX9_late 43 = .ok (.iadd, 1) := dq_96 (by decide +kernel)
theorem dX9_late_44 : decode cX9_late 44 = .ok (.baload, 1) := dq_51 (by decide +kernel)
theorem dX9_late_45 : decode cX9_late 45 = .ok (.ifCond .eq 7, 3) := dq_153 (by decide +kernel)
theorem dX9_late_48 : decode cX9_late 48 = .ok (.iconst 0, 1) := dq_3 (by decide +kernel)
theorem dX9_late_49 : decode cX9_late 49 = .ok (.goto 4, 3) := dq_167 (by decide +kernel)
theorem dX9_late_52 : decode cX9_late 52 = .ok (.iconst 1, 1) := dq_4 (by decide +kernel)
theorem dX9_late_53 : decode cX9_late 53 = .ok (.istore 4, 2) := dq_54 (by decide +kernel)
theorem dX9_late_55 : decode cX9_late 55 = .ok (.aload_n 0, 1) := dq_42 (by decide +kernel)
theorem dX9_late_56 : decode cX9_late 56 = .ok (.getfield 36, 3) := dq_180 (by decide +kernel)
theorem dX9_late_59 : decode cX9_late 59 = .ok (.sipush 400, 3) := dq_17 (by decide +kernel)
theorem dX9_late_62 : decode cX9_late 62 = .ok (.iload_n 1, 1) := dq_27 (by decide +kernel)
theorem dX9_late_63 : decode cX9_late 63 = .ok (.imul, 1) := dq_104 (by decide +kernel)
theorem dX9_late_64 : decode cX9_late 64 = .ok (.iload_n 2, 1) := dq_28 (by decide +kernel)
theorem dX9_late_65 : decode cX9_late 65 = .ok (.iadd, 1) := dq_96 (by decide +kernel)
theorem dX9_late_66 : decode cX9_late 66 = .ok (.iconst 1, 1) := dq_4 (by decide +kernel)
theorem dX9_late_67 : decode cX9_late 67 = .ok (.bastore, 1) := dq_84 (by decide +kernel)
theorem dX9_late_68 : decode cX9_late 68 = .ok (.iload 4, 2) := dq_21 (by decide +kernel)
theorem dX9_late_70 : decode cX9_late 70 = .ok (.ireturn, 1) := dq_172 (by decide +kernel)
theorem dX9_law_0 : decode cX9_law 0 = .ok (.aload_n 0, 1) := dq_42 (by decide +kernel)
theorem dX9_law_1 : decode cX9_law 1 = .ok (.iload_n 1, 1) := dq_27 (by decide +kernel)
theorem dX9_law_2 : decode cX9_law 2 = .ok (.iload_n 2, 1) := dq_28 (by decide +kernel)
theorem dX9_law_3 : decode cX9_law 3 = .ok (.iload_n 3, 1) := dq_29 (by decide +kernel)
theorem dX9_law_4 : decode cX9_law 4 = .ok (.invokevirtual 242, 3) := dq_182 (by decide +kernel)
theorem dX9_law_7 : decode cX9_law 7 = .ok (.istore 4, 2) := dq_54 (by decide +kernel)
theorem dX9_law_9 : decode cX9_law 9 = .ok (.iload 4, 2) := dq_21 (by decide +kernel)
theorem dX9_law_11 : decode cX9_law 11 = .ok (.ifCond .ge 6, 3) := dq_156 (by decide +kernel)
theorem dX9_law_14 : decode cX9_law 14 = .ok (.iload 4, 2) := dq_21 (by decide +kernel)
theorem dX9_law_16 : decode cX9_law 16 = .ok (.ireturn, 1) := dq_172 (by decide +kernel)
theorem dX9_law_17 : decode cX9_law 17 = .ok (.aload_n 0, 1) := dq_42 (by decide +kernel)
theorem dX9_law_18 : decode cX9_law 18 = .ok (.iload_n 1, 1) := dq_27 (by decide +kernel)
theorem dX9_law_19 : decode cX9_law 19 = .ok (.iload_n 2, 1) := dq_28 (by decide +kernel)
theorem dX9_law_20 : decode cX9_law 20 = .ok (.iload_n 3, 1) := dq_29 (by decide +kernel)
theorem dX9_law_21 : decode cX9_law 21 = .ok (.invokevirtual 245, 3) := dq_182 (by decide +kernel)
theorem dX9_law_24 : decode cX9_law 24 = .ok (.aload_n 0, 1) := dq_42 (by decide +kernel)
theorem dX9_law_25 : decode cX9_law 25 = .ok (.getfield 199, 3) := dq_180 (by decide +kernel)
theorem dX9_law_28 : decode cX9_law 28 = .ok (.l2i, 1) := dq_136 (by decide +kernel)
theorem dX9_law_29 : decode cX9_law 29 = .ok (.ireturn, 1) := dq_172 (by decide +kernel)
theorem dX9_lay_0 : decode cX9_lay 0 = .ok (.aload_n 0, 1) := dq_42 (by decide +kernel)
theorem dX9_lay_1 : decode cX9_lay 1 = .ok (.getfield 76, 3) := dq_180 (by decide +kernel)
theorem dX9_lay_4 : decode cX9_lay 4 = .ok (.sipush 256, 3) := dq_17 (by decide +kernel)
theorem dX9_lay_7 : decode cX9_lay 7 = .ok (.aload_n 0, 1) := dq_42 (by decide +kernel)
theorem dX9_lay_8 : decode cX9_lay 8 = .ok (.getfield 348, 3) := dq_180 (by decide +kernel)
theorem dX9_lay_11 : decode cX9_lay 11 = .ok (.iadd, 1) := dq_96 (by decide +kernel)
theorem dX9_lay_12 : decode cX9_lay 12 = .ok (.iload_n 1, 1) := dq_27 (by decide +kernel)
theorem dX9_lay_13 : decode cX9_lay 13 = .ok (.iastore, 1) := dq_79 (by decide +kernel)
theorem dX9_lay_14 : decode cX9_lay 14 = .ok (.aload_n 0, 1) := dq_42 (by decide +kernel)
theorem dX9_lay_15 : decode cX9_lay 15 = .ok (.getfield 79, 3) := dq_180 (by decide +kernel)
theorem dX9_lay_18 : decode cX9_lay 18 = .ok (.sipush 256, 3) := dq_17 (by decide +kernel)
theorem dX9_lay_21 : decode cX9_lay 21 = .ok (.aload_n 0, 1) := dq_42 (by decide +kernel)
theorem dX9_lay_22 : decode cX9_lay 22 = .ok (.getfield 348, 3) := dq_180 (by decide +kernel)
theorem dX9_lay_25 : decode cX9_lay 25 = .ok (.iadd, 1) := dq_96 (by decide +kernel)
theorem dX9_lay_26 : decode cX9_lay 26 = .ok (.iload_n 2, 1) := dq_28 (by decide +kernel)
theorem dX9_lay_27 : decode cX9_lay 27 = .ok (.iastore, 1) := dq_79 (by decide +kernel)
theorem dX9_lay_28 : decode cX9_lay 28 = .ok (.aload_n 0, 1) := dq_42 (by decide +kernel)
theorem dX9_lay_29 : decode cX9_lay 29 = .ok (.dup, 1) := dq_89 (by decide +kernel)
theorem dX9_lay_30 : decode cX9_lay 30 = .ok (.getfield 348, 3) := dq_180 (by decide +kernel)
theorem dX9_lay_33 : decode cX9_lay 33 = .ok (.iconst 1, 1) := dq_4 (by decide +kernel)
theorem dX9_lay_34 : decode cX9_lay 34 = .ok (.iadd, 1) := dq_96 (by decide +kernel)
theorem dX9_lay_35 : decode cX9_lay 35 = .ok (.putfield 348, 3) := dq_181 (by decide +kernel)
theorem dX9_lay_38 : decode cX9_lay 38 = .ok (.return_, 1) := dq_177 (by decide +kernel)
theorem dX9_lend_0 : decode cX9_lend 0 = .ok (.iload_n 1, 1) := dq_27 (by decide +kernel)
theorem dX9_lend_1 : decode cX9_lend 1 = .ok (.invokestatic 152, 3) := dq_184 (by decide +kernel)
theorem dX9_lend_4 : decode cX9_lend 4 = .ok (.ifCond .eq 13, 3) := dq_153 (by decide +kernel)
theorem dX9_lend_7 : decode cX9_lend 7 = .ok (.iload_n 2, 1) := dq_28 (by decide +kernel)
theorem dX9_lend_8 : decode cX9_lend 8 = .ok (.iconst 0, 1) := dq_3 (by decide +kernel)
theorem dX9_lend_9 : decode cX9_lend 9 = .ok (.bipush 19, 2) := dq_16 (by decide +kernel)
theorem dX9_lend_11 : decode cX9_lend 11 = .ok (.invokestatic 148, 3) := dq_184 (by decide +kernel)
theorem dX9_lend_14 : decode cX9_lend 14 = .ok (.ifCond .ne 5, 3) := dq_154 (by decide +kernel)
theorem dX9_lend_17 : decode cX9_lend 17 = .ok (.iconst (-1), 1) := dq_2 (by decide +kernel)
theorem dX9_lend_18 : decode cX9_lend 18 = .ok (.ireturn, 1) := dq_172 (by decide +kernel)
theorem dX9_lend_19 : decode cX9_lend 19 = .ok (.aload_n 0, 1) := dq_42 (by decide +kernel)
theorem dX9_lend_20 : decode cX9_lend 20 = .ok (.iload_n 1, 1) := dq_27 (by decide +kernel)
theorem dX9_lend_21 : decode cX9_lend 21 = .ok (.invokevirtual 172, 3) := dq_182 (by decide +kernel)
theorem dX9_lend_24 : decode cX9_lend 24 = .ok (.istore_n 3, 1) := dq_62 (by decide +kernel)
theorem dX9_lend_25 : decode cX9_lend 25 = .ok (.iload_n 3, 1) := dq_29 (by decide +kernel)
theorem dX9_lend_26 : decode cX9_lend 26 = .ok (.ifCond .ge 5, 3) := dq_156 (by decide +kernel)
theorem dX9_lend_29 : decode cX9_lend 29 = .ok (.iload_n 3, 1) := dq_29 (by decide +kernel)
theorem dX9_lend_30 : decode cX9_lend 30 = .ok (.ireturn, 1) := dq_172 (by decide +kernel)
theorem dX9_lend_31 : decode cX9_lend 31 = .ok (.aload_n 0, 1) := dq_42 (by decide +kernel)
theorem dX9_lend_32 : decode cX9_lend 32 = .ok (.iload_n 1, 1) := dq_27 (by decide +kernel)
theorem dX9_lend_33 : decode cX9_lend 33 = .ok (.invokevirtual 165, 3) := dq_182 (by decide +kernel)
theorem dX9_lend_36 : decode cX9_lend 36 = .ok (.iconst (-1), 1) := dq_2 (by decide +kernel)
theorem dX9_lend_37 : decode cX9_lend 37 = .ok (.if_icmp .eq 6, 3) := dq_159 (by decide +kernel)
theorem dX9_lend_40 : decode cX9_lend 40 = .ok (.bipush (-4), 2) := dq_16 (by decide +kernel)
theorem dX9_lend_42 : decode cX9_lend 42 = .ok (.ireturn, 1) := dq_172 (by decide +kernel)
theorem dX9_lend_43 : decode cX9_lend 43 = .ok (.aload_n 0, 1) := dq_42 (by decide +kernel)
theorem dX9_lend_44 : decode cX9_lend 44 = .ok (.iload_n 1, 1) := dq_27 (by decide +kernel)
theorem dX9_lend_45 : decode cX9_lend 45 = .ok (.iload_n 2, 1) := dq_28 (by decide +kernel)
theorem dX9_lend_46 : decode cX9_lend 46 = .ok (.invokevirtual 392, 3) := dq_182 (by decide +kernel)
theorem dX9_lend_49 : decode cX9_lend 49 = .ok (.iconst 1, 1) := dq_4 (by decide +kernel)
theorem dX9_lend_50 : decode cX9_lend 50 = .ok (.ireturn, 1) := dq_172 (by decide +kernel)
theorem dX9_maySail_0 : decode cX9_maySail 0 = .ok (.aload_n 0, 1) := dq_42 (by decide +kernel)
theorem dX9_maySail_1 : decode cX9_maySail 1 = .ok (.iload_n 1, 1) := dq_27 (by decide +kernel)
theorem dX9_maySail_2 : decode cX9_maySail 2 = .ok (.invokevirtual 165, 3) := dq_182 (by decide +kernel)
theorem dX9_maySail_5 : decode cX9_maySail 5 = .ok (.iconst (-1), 1) := dq_2 (by decide +kernel)
theorem dX9_maySail_6 : decode cX9_maySail 6 = .ok (.if_icmp .ne 28, 3) := dq_160 (by decide +kernel)
theorem dX9_maySail_9 : decode cX9_maySail 9 = .ok (.aload_n 0, 1) := dq_42 (by decide +kernel)
theorem dX9_maySail_10 : decode cX9_maySail 10 = .ok (.getfield 23, 3) := dq_180 (by decide +kernel)
theorem dX9_maySail_13 : decode cX9_maySail 13 = .ok (.sipush 400, 3) := dq_17 (by decide +kernel)
theorem dX9_maySail_16 : decode cX9_maySail 16 = .ok (.iload_n 1, 1) := dq_27 (by decide +kernel)
theorem dX9_maySail_17 : decode cX9_maySail 17 = .ok (.imul, 1) := dq_104 (by decide +kernel)
theorem dX9_maySail_18 : decode cX9_maySail 18 = .ok (.aload_n 0, 1) := dq_42 (by decide +kernel)
theorem dX9_maySail_19 : decode cX9_maySail 19 = .ok (.getfield 156, 3) := dq_180 (by decide +kernel)
theorem dX9_maySail_22 : decode cX9_maySail 22 = .ok (.iadd, 1) := dq_96 (by decide +kernel)
theorem dX9_maySail_23 : decode cX9_maySail 23 = .ok (.baload, 1) := dq_51 (by decide +kernel)
theorem dX9_maySail_24 : decode cX9_maySail 24 = .ok (.ifCond .eq 10, 3) := dq_153 (by decide +kernel)
theorem dX9_maySail_27 : decode cX9_maySail 27 = .ok (.aload_n 0, 1) := dq_42 (by decide +kernel)
theorem dX9_maySail_28 : decode cX9_maySail 28 = .ok (.getfield 156, 3) := dq_180 (by decide +kernel)
theorem dX9_maySail_31 : decode cX9_maySail 31 = .ok (.ifCond .ne 5, 3) := dq_154 (by decide +kernel)
theorem dX9_maySail_34 : decode cX9_maySail 34 = .ok (.iconst 0, 1) := dq_3 (by decide +kernel)
theorem dX9_maySail_35 : decode cX9_maySail 35 = .ok (.ireturn, 1) := dq_172 (by decide +kernel)
theorem dX9_maySail_36 : decode cX9_maySail 36 = .ok (.aload_n 0, 1) := dq_42 (by decide +kernel)
theorem dX9_maySail_37 : decode cX9_maySail 37 = .ok (.iload_n 1, 1) := dq_27 (by decide +kernel)
theorem dX9_maySail_38 : decode cX9_maySail 38 = .ok (.aload_n 0, 1) := dq_42 (by decide +kernel)
theorem dX9_maySail_39 : decode cX9_maySail 39 = .ok (.getfield 156, 3) := dq_180 (by decide +kernel)
theorem dX9_maySail_42 : decode cX9_maySail 42 = .ok (.bipush 30, 2) := dq_16 (by decide +kernel)
theorem dX9_maySail_44 : decode cX9_maySail 44 = .ok (.if_icmp .ge 7, 3) := dq_162 (by decide +kernel)
theorem dX9_maySail_47 : decode cX9_maySail 47 = .ok (.iconst 0, 1) := dq_3 (by decide +kernel)
theorem dX9_maySail_48 : decode cX9_maySail 48 = .ok (.goto 10, 3) := dq_167 (by decide +kernel)
theorem dX9_maySail_51 : decode cX9_maySail 51 = .ok (.aload_n 0, 1) := dq_42 (by decide +kernel)
theorem dX9_maySail_52 : decode cX9_maySail 52 = .ok (.getfield 156, 3) := dq_180 (by decide +kernel)
theorem dX9_maySail_55 : decode cX9_maySail 55 = .ok (.bipush 30, 2) := dq_16 (by decide +kernel)
theorem dX9_maySail_57 : decode cX9_maySail 57 = .ok (.isub, 1) := dq_100 (by decide +kernel)
theorem dX9_maySail_58 : decode cX9_maySail 58 = .ok (.aload_n 0, 1) := dq_42 (by decide +kernel)
theorem dX9_maySail_59 : decode cX9_maySail 59 = .ok (.getfield 156, 3) := dq_180 (by decide +kernel)
theorem dX9_maySail_62 : decode cX9_maySail 62 = .ok (.invokevirtual 281, 3) := dq_182 (by decide +kernel)
theorem dX9_maySail_65 : decode cX9_maySail 65 = .ok (.aload_n 0, 1) := dq_42 (by decide +kernel)
theorem dX9_maySail_66 : decode cX9_maySail 66 = .ok (.getfield 278, 3) := dq_180 (by decide +kernel)
theorem dX9_maySail_69 : decode cX9_maySail 69 = .ok (.iconst 2, 1) := dq_5 (by decide +kernel)
theorem dX9_maySail_70 : decode cX9_maySail 70 = .ok (.if_icmp .lt 7, 3) := dq_161 (by decide +kernel)
theorem dX9_maySail_73 : decode cX9_maySail 73 = .ok (.iconst 1, 1) := dq_4 (by decide +kernel)
theorem dX9_maySail_74 : decode cX9_maySail 74 = .ok (.goto 4, 3) := dq_167 (by decide +kernel)
theorem dX9_maySail_77 : decode cX9_maySail 77 = .ok (.iconst 0, 1) := dq_3 (by decide +kernel)
theorem dX9_maySail_78 : decode cX9_maySail 78 = .ok (.ireturn, 1) := dq_172 (by decide +kernel)
theorem dX9_off_0 : decode cX9_off 0 = .ok (.iload_n 1, 1) := dq_27 (by decide +kernel)
theorem dX9_off_1 : decode cX9_off 1 = .ok (.iconst 1, 1) := dq_4 (by decide +kernel)
theorem dX9_off_2 : decode cX9_off 2 = .ok (.iconst 5, 1) := dq_8 (by decide +kernel)
theorem dX9_off_3 : decode cX9_off 3 = .ok (.invokestatic 148, 3) := dq_184 (by decide +kernel)
theorem dX9_off_6 : decode cX9_off 6 = .ok (.ifCond .eq 36, 3) := dq_153 (by decide +kernel)
theorem dX9_off_9 : decode cX9_off 9 = .ok (.iload_n 2, 1) := dq_28 (by decide +kernel)
theorem dX9_off_10 : decode cX9_off 10 = .ok (.invokestatic 159, 3) := dq_184 (by decide +kernel)
theorem dX9_off_13 : decode cX9_off 13 = .ok (.ifCond .eq 29, 3) := dq_153 (by decide +kernel)
theorem dX9_off_16 : decode cX9_off 16 = .ok (.iload_n 3, 1) := dq_29 (by decide +kernel)
theorem dX9_off_17 : decode cX9_off 17 = .ok (.invokestatic 159, 3) := dq_184 (by decide +kernel)
theorem dX9_off_20 : decode cX9_off 20 = .ok (.ifCond .eq 22, 3) := dq_153 (by decide +kernel)
theorem dX9_off_23 : decode cX9_off 23 = .ok (.iload_n 2, 1) := dq_28 (by decide +kernel)
theorem dX9_off_24 : decode cX9_off 24 = .ok (.iload_n 3, 1) := dq_29 (by decide +kernel)
theorem dX9_off_25 : decode cX9_off 25 = .ok (.if_icmp .gt 17, 3) := dq_163 (by decide +kernel)
theorem dX9_off_28 : decode cX9_off 28 = .ok (.iload 4, 2) := dq_21 (by decide +kernel)
theorem dX9_off_30 : decode cX9_off 30 = .ok (.sipush (-10000), 3) := dq_17 (by decide +kernel)
theorem dX9_off_33 : decode cX9_off 33 = .ok (.sipush 10000, 3) := dq_17 (by decide +kernel)
theorem dX9_off_36 : decode cX9_off 36 = .ok (.invokestatic 148, 3) := dq_184 (by decide +kernel)
theorem dX9_off_39 : decode cX9_off 39 = .ok (.ifCond .ne 5, 3) := dq_154 (by decide +kernel)
theorem dX9_off_42 : decode cX9_off 42 = .ok (.iconst (-1), 1) := dq_2 (by decide +kernel)
theorem dX9_off_43 : decode cX9_off 43 = .ok (.ireturn, 1) := dq_172 (by decide +kernel)
theorem dX9_off_44 : decode cX9_off 44 = .ok (.aload_n 0, 1) := dq_42 (by decide +kernel)
theorem dX9_off_45 : decode cX9_off 45 = .ok (.getfield 175, 3) := dq_180 (by decide +kernel)
theorem dX9_off_48 : decode cX9_off 48 = .ok (.bipush 60, 2) := dq_16 (by decide +kernel)
theorem dX9_off_50 : decode cX9_off 50 = .ok (.if_icmp .ne 6, 3) := dq_160 (by decide +kernel)
theorem dX9_off_53 : decode cX9_off 53 = .ok (.bipush (-5), 2) := dq_16 (by decide +kernel)
theorem dX9_off_55 : decode cX9_off 55 = .ok (.ireturn, 1) := dq_172 (by decide +kernel)
theorem dX9_off_56 : decode cX9_off 56 = .ok (.aload_n 0, 1) := dq_42 (by decide +kernel)
theorem dX9_off_57 : decode cX9_off 57 = .ok (.getfield 42, 3) := dq_180 (by decide +kernel)
theorem dX9_off_60 : decode cX9_off 60 = .ok (.aload_n 0, 1) := dq_42 (by decide +kernel)
theorem dX9_off_61 : decode cX9_off 61 = .ok (.getfield 175, 3) := dq_180 (by decide +kernel)
theorem dX9_off_64 : decode cX9_off 64 = .ok (.iload_n 1, 1) := dq_27 (by decide +kernel)
theorem dX9_off_65 : decode cX9_off 65 = .ok (.iastore, 1) := dq_79 (by decide +kernel)
theorem dX9_off_66 : decode cX9_off 66 = .ok (.aload_n 0, 1) := dq_42 (by decide +kernel)
theorem dX9_off_67 : decode cX9_off 67 = .ok (.getfield 45, 3) := dq_180 (by decide +kernel)
theorem dX9_off_70 : decode cX9_off 70 = .ok (.aload_n 0, 1) := dq_42 (by decide +kernel)
theorem dX9_off_71 : decode cX9_off 71 = .ok (.getfield 175, 3) := dq_180 (by decide +kernel)
theorem dX9_off_74 : decode cX9_off 74 = .ok (.iload_n 2, 1) := dq_28 (by decide +kernel)
theorem dX9_off_75 : decode cX9_off 75 = .ok (.iastore, 1) := dq_79 (by decide +kernel)
theorem dX9_off_76 : decode cX9_off 76 = .ok (.aload_n 0, 1) := dq_42 (by decide +kernel)
theorem dX9_off_77 : decode cX9_off 77 = .ok (.getfield 48, 3) := dq_180 (by decide +kernel)
theorem dX9_off_80 : decode cX9_off 80 = .ok (.aload_n 0, 1) := dq_42 (by decide +kernel)
theorem dX9_off_81 : decode cX9_off 81 = .ok (.getfield 175, 3) := dq_180 (by decide +kernel)
theorem dX9_off_84 : decode cX9_off 84 = .ok (.iload_n 3, 1) := dq_29 (by decide +kernel)
theorem dX9_off_85 : decode cX9_off 85 = .ok (.iastore, 1) := dq_79 (by decide +kernel)
theorem dX9_off_86 : decode cX9_off 86 = .ok (.aload_n 0, 1) := dq_42 (by decide +kernel)
theorem dX9_off_87 : decode cX9_off 87 = .ok (.getfield 51, 3) := dq_180 (by decide +kernel)
theorem dX9_off_90 : decode cX9_off 90 = .ok (.aload_n 0, 1) := dq_42 (by decide +kernel)
theorem dX9_off_91 : decode cX9_off 91 = .ok (.getfield 175, 3) := dq_180 (by decide +kernel)
theorem dX9_off_94 : decode cX9_off 94 = .ok (.iload 4, 2) := dq_21 (by decide +kernel)
theorem dX9_off_96 : decode cX9_off 96 = .ok (.iastore, 1) := dq_79 (by decide +kernel)
theorem dX9_off_97 : decode cX9_off 97 = .ok (.aload_n 0, 1) := dq_42 (by decide +kernel)
theorem dX9_off_98 : decode cX9_off 98 = .ok (.getfield 54, 3) := dq_180 (by decide +kernel)
theorem dX9_off_101 : decode cX9_off 101 = .ok (.aload_n 0, 1) := dq_42 (by decide +kernel)
theorem dX9_off_102 : decode cX9_off 102 = .ok (.getfield 175, 3) := dq_180 (by decide +kernel)
theorem dX9_off_105 : decode cX9_off 105 = .ok (.aload_n 0, 1) := dq_42 (by decide +kernel)
theorem dX9_off_106 : decode cX9_off 106 = .ok (.getfield 156, 3) := dq_180 (by decide +kernel)
theorem dX9_off_109 : decode cX9_off 109 = .ok (.iastore, 1) := dq_79 (by decide +kernel)
theorem dX9_off_110 : decode cX9_off 110 = .ok (.aload_n 0, 1) := dq_42 (by decide +kernel)
theorem dX9_off_111 : decode cX9_off 111 = .ok (.dup, 1) := dq_89 (by decide +kernel)
theorem dX9_off_112 : decode cX9_off 112 = .ok (.getfield 175, 3) := dq_180 (by decide +kernel)
theorem dX9_off_115 : decode cX9_off 115 = .ok (.iconst 1, 1) := dq_4 (by decide +kernel)
theorem dX9_off_116 : decode cX9_off 116 = .ok (.iadd, 1) := dq_96 (by decide +kernel)
theorem dX9_off_117 : decode cX9_off 117 = .ok (.putfield 175, 3) := dq_181 (by decide +kernel)
theorem dX9_off_120 : decode cX9_off 120 = .ok (.aload_n 0, 1) := dq_42 (by decide +kernel)
theorem dX9_off_121 : decode cX9_off 121 = .ok (.getfield 175, 3) := dq_180 (by decide +kernel)
theorem dX9_off_124 : decode cX9_off 124 = .ok (.ireturn, 1) := dq_172 (by decide +kernel)
theorem dX9_opened_0 : decode cX9_opened 0 = .ok (.iconst 0, 1) := dq_3 (by decide +kernel)
theorem dX9_opened_1 : decode cX9_opened 1 = .ok (.istore_n 1, 1) := dq_60 (by decide +kernel)
theorem dX9_opened_2 : decode cX9_opened 2 = .ok (.iconst 0, 1) := dq_3 (by decide +kernel)
theorem dX9_opened_3 : decode cX9_opened 3 = .ok (.istore_n 2, 1) := dq_61 (by decide +kernel)
theorem dX9_opened_4 : decode cX9_opened 4 = .ok (.iload_n 2, 1) := dq_28 (by decide +kernel)
theorem dX9_opened_5 : decode cX9_opened 5 = .ok (.aload_n 0, 1) := dq_42 (by decide +kernel)
theorem dX9_opened_6 : decode cX9_opened 6 = .ok (.getfield 351, 3) := dq_180 (by decide +kernel)
theorem dX9_opened_9 : decode cX9_opened 9 = .ok (.if_icmp .ge 60, 3) := dq_162 (by decide +kernel)
theorem dX9_opened_12 : decode cX9_opened 12 = .ok (.iload_n 1, 1) := dq_27 (by decide +kernel)
theorem dX9_opened_13 : decode cX9_opened 13 = .ok (.aload_n 0, 1) := dq_42 (by decide +kernel)
theorem dX9_opened_14 : decode cX9_opened 14 = .ok (.getfield 82, 3) := dq_180 (by decide +kernel)
theorem dX9_opened_17 : decode cX9_opened 17 = .ok (.iload_n 2, 1) := dq_28 (by decide +kernel)
theorem dX9_opened_18 : decode cX9_opened 18 = .ok (.iaload, 1) := dq_46 (by decide +kernel)
theorem dX9_opened_19 : decode cX9_opened 19 = .ok (.iconst 5, 1) := dq_8 (by decide +kernel)
theorem dX9_opened_20 : decode cX9_opened 20 = .ok (.if_icmp .eq 36, 3) := dq_159 (by decide +kernel)
theorem dX9_opened_23 : decode cX9_opened 23 = .ok (.aload_n 0, 1) := dq_42 (by decide +kernel)
theorem dX9_opened_24 : decode cX9_opened 24 = .ok (.getfield 82, 3) := dq_180 (by decide +kernel)
theorem dX9_opened_27 : decode cX9_opened 27 = .ok (.iload_n 2, 1) := dq_28 (by decide +kernel)
theorem dX9_opened_28 : decode cX9_opened 28 = .ok (.iaload, 1) := dq_46 (by decide +kernel)
theorem dX9_opened_29 : decode cX9_opened 29 = .ok (.bipush 30, 2) := dq_16 (by decide +kernel)
theorem dX9_opened_31 : decode cX9_opened 31 = .ok (.if_icmp .eq 25, 3) := dq_159 (by decide +kernel)
theorem dX9_opened_34 : decode cX9_opened 34 = .ok (.aload_n 0, 1) := dq_42 (by decide +kernel)
theorem dX9_opened_35 : decode cX9_opened 35 = .ok (.getfield 82, 3) := dq_180 (by decide +kernel)
theorem dX9_opened_38 : decode cX9_opened 38 = .ok (.iload_n 2, 1) := dq_28 (by decide +kernel)
theorem dX9_opened_39 : decode cX9_opened 39 = .ok (.iaload, 1) := dq_46 (by decide +kernel)
theorem dX9_opened_40 : decode cX9_opened 40 = .ok (.bipush 70, 2) := dq_16 (by decide +kernel)
theorem dX9_opened_42 : decode cX9_opened 42 = .ok (.if_icmp .eq 14, 3) := dq_159 (by decide +kernel)
theorem dX9_opened_45 : decode cX9_opened 45 = .ok (.aload_n 0, 1) := dq_42 (by decide +kernel)
theorem dX9_opened_46 : decode cX9_opened 46 = .ok (.getfield 82, 3) := dq_180 (by decide +kernel)
theorem dX9_opened_49 : decode cX9_opened 49 = .ok (.iload_n 2, 1) := dq_28 (by decide +kernel)
theorem dX9_opened_50 : decode cX9_opened 50 = .ok (.iaload, 1) := dq_46 (by decide +kernel)
theorem dX9_opened_51 : decode cX9_opened 51 = .ok (.bipush 71, 2) := dq_16 (by decide +kernel)
theorem dX9_opened_53 : decode cX9_opened 53 = .ok (.if_icmp .ne 7, 3) := dq_160 (by decide +kernel)
theorem dX9_opened_56 : decode cX9_opened 56 = .ok (.iconst 1, 1) := dq_4 (by decide +kernel)
theorem dX9_opened_57 : decode cX9_opened 57 = .ok (.goto 4, 3) := dq_167 (by decide +kernel)
theorem dX9_opened_60 : decode cX9_opened 60 = .ok (.iconst 0, 1) := dq_3 (by decide +kernel)
theorem dX9_opened_61 : decode cX9_opened 61 = .ok (.iadd, 1) := dq_96 (by decide +kernel)
theorem dX9_opened_62 : decode cX9_opened 62 = .ok (.istore_n 1, 1) := dq_60 (by decide +kernel)
theorem dX9_opened_63 : decode cX9_opened 63 = .ok (.iinc 2 1, 3) := dq_132 (by decide +kernel)
theorem dX9_opened_66 : decode cX9_opened 66 = .ok (.goto (-62), 3) := dq_167 (by decide +kernel)
theorem dX9_opened_69 : decode cX9_opened 69 = .ok (.iload_n 1, 1) := dq_27 (by decide +kernel)
theorem dX9_opened_70 : decode cX9_opened 70 = .ok (.ireturn, 1) := dq_172 (by decide +kernel)
theorem dX9_order_0 : decode cX9_order 0 = .ok (.aload_n 0, 1) := dq_42 (by decide +kernel)
theorem dX9_order_1 : decode cX9_order 1 = .ok (.iload_n 1, 1) := dq_27 (by decide +kernel)
theorem dX9_order_2 : decode cX9_order 2 = .ok (.iload_n 2, 1) := dq_28 (by decide +kernel)
theorem dX9_order_3 : decode cX9_order 3 = .ok (.iload_n 3, 1) := dq_29 (by decide +kernel)
theorem dX9_order_4 : decode cX9_order 4 = .ok (.invokevirtual 242, 3) := dq_182 (by decide +kernel)
theorem dX9_order_7 : decode cX9_order 7 = .ok (.istore 4, 2) := dq_54 (by decide +kernel)
theorem dX9_order_9 : decode cX9_order 9 = .ok (.iload 4, 2) := dq_21 (by decide +kernel)
theorem dX9_order_11 : decode cX9_order 11 = .ok (.ifCond .ge 6, 3) := dq_156 (by decide +kernel)
theorem dX9_order_14 : decode cX9_order 14 = .ok (.iload 4, 2) := dq_21 (by decide +kernel)
theorem dX9_order_16 : decode cX9_order 16 = .ok (.ireturn, 1) := dq_172 (by decide +kernel)
theorem dX9_order_17 : decode cX9_order 17 = .ok (.aload_n 0, 1) := dq_42 (by decide +kernel)
theorem dX9_order_18 : decode cX9_order 18 = .ok (.iload_n 1, 1) := dq_27 (by decide +kernel)
theorem dX9_order_19 : decode cX9_order 19 = .ok (.iload_n 2, 1) := dq_28 (by decide +kernel)
theorem dX9_order_20 : decode cX9_order 20 = .ok (.iload_n 3, 1) := dq_29 (by decide +kernel)
theorem dX9_order_21 : decode cX9_order 21 = .ok (.invokevirtual 383, 3) := dq_182 (by decide +kernel)
theorem dX9_order_24 : decode cX9_order 24 = .ok (.ifCond .ne 6, 3) := dq_154 (by decide +kernel)
theorem dX9_order_27 : decode cX9_order 27 = .ok (.bipush (-4), 2) := dq_16 (by decide +kernel)
theorem dX9_order_29 : decode cX9_order 29 = .ok (.ireturn, 1) := dq_172 (by decide +kernel)
theorem dX9_order_30 : decode cX9_order 30 = .ok (.aload_n 0, 1) := dq_42 (by decide +kernel)
theorem dX9_order_31 : decode cX9_order 31 = .ok (.iload_n 1, 1) := dq_27 (by decide +kernel)
theorem dX9_order_32 : decode cX9_order 32 = .ok (.iload_n 2, 1) := dq_28 (by decide +kernel)
theorem dX9_order_33 : decode cX9_order 33 = .ok (.iload_n 3, 1) := dq_29 (by decide +kernel)
theorem dX9_order_34 : decode cX9_order 34 = .ok (.invokevirtual 380, 3) := dq_182 (by decide +kernel)
theorem dX9_order_37 : decode cX9_order 37 = .ok (.istore 5, 2) := dq_54 (by decide +kernel)
theorem dX9_order_39 : decode cX9_order 39 = .ok (.iconst 1, 1) := dq_4 (by decide +kernel)
theorem dX9_order_40 : decode cX9_order 40 = .ok (.istore 6, 2) := dq_54 (by decide +kernel)
theorem dX9_order_42 : decode cX9_order 42 = .ok (.iconst 0, 1) := dq_3 (by decide +kernel)
theorem dX9_order_43 : decode cX9_order 43 = .ok (.istore 7, 2) := dq_54 (by decide +kernel)
theorem dX9_order_45 : decode cX9_order 45 = .ok (.iload 7, 2) := dq_21 (by decide +kernel)
theorem dX9_order_47 : decode cX9_order 47 = .ok (.bipush 16, 2) := dq_16 (by decide +kernel)
theorem dX9_order_49 : decode cX9_order 49 = .ok (.if_icmp .ge 45, 3) := dq_162 (by decide +kernel)
theorem dX9_order_52 : decode cX9_order 52 = .ok (.aload_n 0, 1) := dq_42 (by decide +kernel)
theorem dX9_order_53 : decode cX9_order 53 = .ok (.iload 7, 2) := dq_21 (by decide +kernel)
theorem dX9_order_55 : decode cX9_order 55 = .ok (.invokevirtual 162, 3) := dq_182 (by decide +kernel)
theorem dX9_order_58 : decode cX9_order 58 = .ok (.ifCond .eq 30, 3) := dq_153 (by decide +kernel)
theorem dX9_order_61 : decode cX9_order 61 = .ok (.aload_n 0, 1) := dq_42 (by decide +kernel)
theorem dX9_order_62 : decode cX9_order 62 = .ok (.iload 7, 2) := dq_21 (by decide +kernel)
theorem dX9_order_64 : decode cX9_order 64 = .ok (.iload_n 2, 1) := dq_28 (by decide +kernel)
theorem dX9_order_65 : decode cX9_order 65 = .ok (.iload_n 3, 1) := dq_29 (by decide +kernel)
theorem dX9_order_66 : decode cX9_order 66 = .ok (.invokevirtual 383, 3) := dq_182 (by decide +kernel)
theorem dX9_order_69 : decode cX9_order 69 = .ok (.ifCond .eq 19, 3) := dq_153 (by decide +kernel)
theorem dX9_order_72 : decode cX9_order 72 = .ok (.aload_n 0, 1) := dq_42 (by decide +kernel)
theorem dX9_order_73 : decode cX9_order 73 = .ok (.iload 7, 2) := dq_21 (by decide +kernel)
theorem dX9_order_75 : decode cX9_order 75 = .ok (.iload_n 2, 1) := dq_28 (by decide +kernel)
theorem dX9_order_76 : decode cX9_order 76 = .ok (.iload_n 3, 1) := dq_29 (by decide +kernel)
theorem dX9_order_77 : decode cX9_order 77 = .ok (.invokevirtual 380, 3) := dq_182 (by decide +kernel)
theorem dX9_order_80 : decode cX9_order 80 = .ok (.iload 5, 2) := dq_21 (by decide +kernel)
theorem dX9_order_82 : decode cX9_order 82 = .ok (.if_icmp .ge 6, 3) := dq_162 (by decide +kernel)
theorem dX9_order_85 : decode cX9_order 85 = .ok (.iinc 6 1, 3) := dq_132 (by decide +kernel)
theorem dX9_order_88 : decode cX9_order 88 = .ok (.iinc 7 1, 3) := dq_132 (by decide +kernel)
theorem dX9_order_91 : decode cX9_order 91 = .ok (.goto (-46), 3) := dq_167 (by decide +kernel)
theorem dX9_order_94 : decode cX9_order 94 = .ok (.iload 6, 2) := dq_21 (by decide +kernel)
theorem dX9_order_96 : decode cX9_order 96 = .ok (.ireturn, 1) := dq_172 (by decide +kernel)
theorem dX9_put_0 : decode cX9_put 0 = .ok (.iload_n 1, 1) := dq_27 (by decide +kernel)
theorem dX9_put_1 : decode cX9_put 1 = .ok (.invokestatic 152, 3) := dq_184 (by decide +kernel)
theorem dX9_put_4 : decode cX9_put 4 = .ok (.ifCond .eq 36, 3) := dq_153 (by decide +kernel)
theorem dX9_put_7 : decode cX9_put 7 = .ok (.iload_n 2, 1) := dq_28 (by decide +kernel)
theorem dX9_put_8 : decode cX9_put 8 = .ok (.iconst 0, 1) := dq_3 (by decide +kernel)
theorem dX9_put_9 : decode cX9_put 9 = .ok (.iconst 2, 1) := dq_5 (by decide +kernel)
theorem dX9_put_10 : decode cX9_put 10 = .ok (.invokestatic 148, 3) := dq_184 (by decide +kernel)
theorem dX9_put_13 : decode cX9_put 13 = .ok (.ifCond .eq 27, 3) := dq_153 (by decide +kernel)
theorem dX9_put_16 : decode cX9_put 16 = .ok (.iload_n 2, 1) := dq_28 (by decide +kernel)
theorem dX9_put_17 : decode cX9_put 17 = .ok (.ifCond .ne 7, 3) := dq_154 (by decide +kernel)
theorem dX9_put_20 : decode cX9_put 20 = .ok (.iload_n 3, 1) := dq_29 (by decide +kernel)
theorem dX9_put_21 : decode cX9_put 21 = .ok (.ifCond .ne 19, 3) := dq_154 (by decide +kernel)
theorem dX9_put_24 : decode cX9_put 24 = .ok (.iload_n 2, 1) := dq_28 (by decide +kernel)
theorem dX9_put_25 : decode cX9_put 25 = .ok (.iconst 1, 1) := dq_4 (by decide +kernel)
theorem dX9_put_26 : decode cX9_put 26 = .ok (.if_icmp .ne 16, 3) := dq_160 (by decide +kernel)
theorem dX9_put_29 : decode cX9_put 29 = .ok (.iload_n 3, 1) := dq_29 (by decide +kernel)
theorem dX9_put_30 : decode cX9_put 30 = .ok (.bipush (-50), 2) := dq_16 (by decide +kernel)
theorem dX9_put_32 : decode cX9_put 32 = .ok (.bipush 50, 2) := dq_16 (by decide +kernel)
theorem dX9_put_34 : decode cX9_put 34 = .ok (.invokestatic 148, 3) := dq_184 (by decide +kernel)
theorem dX9_put_37 : decode cX9_put 37 = .ok (.ifCond .ne 5, 3) := dq_154 (by decide +kernel)
theorem dX9_put_40 : decode cX9_put 40 = .ok (.iconst (-1), 1) := dq_2 (by decide +kernel)
theorem dX9_put_41 : decode cX9_put 41 = .ok (.ireturn, 1) := dq_172 (by decide +kernel)
theorem dX9_put_42 : decode cX9_put 42 = .ok (.aload_n 0, 1) := dq_42 (by decide +kernel)
theorem dX9_put_43 : decode cX9_put 43 = .ok (.getfield 17, 3) := dq_180 (by decide +kernel)
theorem dX9_put_46 : decode cX9_put 46 = .ok (.iload_n 1, 1) := dq_27 (by decide +kernel)
theorem dX9_put_47 : decode cX9_put 47 = .ok (.iaload, 1) := dq_46 (by decide +kernel)
theorem dX9_put_48 : decode cX9_put 48 = .ok (.bipush (-5), 2) := dq_16 (by decide +kernel)
theorem dX9_put_50 : decode cX9_put 50 = .ok (.if_icmp .eq 6, 3) := dq_159 (by decide +kernel)
theorem dX9_put_53 : decode cX9_put 53 = .ok (.bipush (-4), 2) := dq_16 (by decide +kernel)
theorem dX9_put_55 : decode cX9_put 55 = .ok (.ireturn, 1) := dq_172 (by decide +kernel)
theorem dX9_put_56 : decode cX9_put 56 = .ok (.aload_n 0, 1) := dq_42 (by decide +kernel)
theorem dX9_put_57 : decode cX9_put 57 = .ok (.getfield 17, 3) := dq_180 (by decide +kernel)
theorem dX9_put_60 : decode cX9_put 60 = .ok (.iload_n 1, 1) := dq_27 (by decide +kernel)
theorem dX9_put_61 : decode cX9_put 61 = .ok (.iload_n 2, 1) := dq_28 (by decide +kernel)
theorem dX9_put_62 : decode cX9_put 62 = .ok (.iastore, 1) := dq_79 (by decide +kernel)
theorem dX9_put_63 : decode cX9_put 63 = .ok (.aload_n 0, 1) := dq_42 (by decide +kernel)
theorem dX9_put_64 : decode cX9_put 64 = .ok (.getfield 20, 3) := dq_180 (by decide +kernel)
theorem dX9_put_67 : decode cX9_put 67 = .ok (.iload_n 1, 1) := dq_27 (by decide +kernel)
theorem dX9_put_68 : decode cX9_put 68 = .ok (.iload_n 3, 1) := dq_29 (by decide +kernel)
theorem dX9_put_69 : decode cX9_put 69 = .ok (.iastore, 1) := dq_79 (by decide +kernel)
theorem dX9_put_70 : decode cX9_put 70 = .ok (.iconst 0, 1) := dq_3 (by decide +kernel)
theorem dX9_put_71 : decode cX9_put 71 = .ok (.istore 4, 2) := dq_54 (by decide +kernel)
theorem dX9_put_73 : decode cX9_put 73 = .ok (.iload 4, 2) := dq_21 (by decide +kernel)
theorem dX9_put_75 : decode cX9_put 75 = .ok (.sipush 400, 3) := dq_17 (by decide +kernel)
theorem dX9_put_78 : decode cX9_put 78 = .ok (.if_icmp .ge 65, 3) := dq_162 (by decide +kernel)
theorem dX9_put_81 : decode cX9_put 81 = .ok (.aload_n 0, 1) := dq_42 (by decide +kernel)
theorem dX9_put_82 : decode cX9_put 82 = .ok (.getfield 23, 3) := dq_180 (by decide +kernel)
theorem dX9_put_85 : decode cX9_put 85 = .ok (.sipush 400, 3) := dq_17 (by decide +kernel)
theorem dX9_put_88 : decode cX9_put 88 = .ok (.iload_n 1, 1) := dq_27 (by decide +kernel)
theorem dX9_put_89 : decode cX9_put 89 = .ok (.imul, 1) := dq_104 (by decide +kernel)
theorem dX9_put_90 : decode cX9_put 90 = .ok (.iload 4, 2) := dq_21 (by decide +kernel)
theorem dX9_put_92 : decode cX9_put 92 = .ok (.iadd, 1) := dq_96 (by decide +kernel)
theorem dX9_put_93 : decode cX9_put 93 = .ok (.iconst 0, 1) := dq_3 (by decide +kernel)
theorem dX9_put_94 : decode cX9_put 94 = .ok (.bastore, 1) := dq_84 (by decide +kernel)
theorem dX9_put_95 : decode cX9_put 95 = .ok (.aload_n 0, 1) := dq_42 (by decide +kernel)
theorem dX9_put_96 : decode cX9_put 96 = .ok (.getfield 33, 3) := dq_180 (by decide +kernel)
theorem dX9_put_99 : decode cX9_put 99 = .ok (.sipush 400, 3) := dq_17 (by decide +kernel)
theorem dX9_put_102 : decode cX9_put 102 = .ok (.iload_n 1, 1) := dq_27 (by decide +kernel)
theorem dX9_put_103 : decode cX9_put 103 = .ok (.imul, 1) := dq_104 (by decide +kernel)
theorem dX9_put_104 : decode cX9_put 104 = .ok (.iload 4, 2) := dq_21 (by decide +kernel)
theorem dX9_put_106 : decode cX9_put 106 = .ok (.iadd, 1) := dq_96 (by decide +kernel)
theorem dX9_put_107 : decode cX9_put 107 = .ok (.iconst 0, 1) := dq_3 (by decide +kernel)
theorem dX9_put_108 : decode cX9_put 108 = .ok (.bastore, 1) := dq_84 (by decide +kernel)
theorem dX9_put_109 : decode cX9_put 109 = .ok (.aload_n 0, 1) := dq_42 (by decide +kernel)
theorem dX9_put_110 : decode cX9_put 110 = .ok (.getfield 36, 3) := dq_180 (by decide +kernel)
theorem dX9_put_113 : decode cX9_put 113 = .ok (.sipush 400, 3) := dq_17 (by decide +kernel)
theorem dX9_put_116 : decode cX9_put 116 = .ok (.iload_n 1, 1) := dq_27 (by decide +kernel)
theorem dX9_put_117 : decode cX9_put 117 = .ok (.imul, 1) := dq_104 (by decide +kernel)
theorem dX9_put_118 : decode cX9_put 118 = .ok (.iload 4, 2) := dq_21 (by decide +kernel)
theorem dX9_put_120 : decode cX9_put 120 = .ok (.iadd, 1) := dq_96 (by decide +kernel)
theorem dX9_put_121 : decode cX9_put 121 = .ok (.iconst 0, 1) := dq_3 (by decide +kernel)
theorem dX9_put_122 : decode cX9_put 122 = .ok (.bastore, 1) := dq_84 (by decide +kernel)
theorem dX9_put_123 : decode cX9_put 123 = .ok (.aload_n 0, 1) := dq_42 (by decide +kernel)
theorem dX9_put_124 : decode cX9_put 124 = .ok (.getfield 39, 3) := dq_180 (by decide +kernel)
theorem dX9_put_127 : decode cX9_put 127 = .ok (.sipush 400, 3) := dq_17 (by decide +kernel)
theorem dX9_put_130 : decode cX9_put 130 = .ok (.iload_n 1, 1) := dq_27 (by decide +kernel)
theorem dX9_put_131 : decode cX9_put 131 = .ok (.imul, 1) := dq_104 (by decide +kernel)
theorem dX9_put_132 : decode cX9_put 132 = .ok (.iload 4, 2) := dq_21 (by decide +kernel)
theorem dX9_put_134 : decode cX9_put 134 = .ok (.iadd, 1) := dq_96 (by decide +kernel)
theorem dX9_put_135 : decode cX9_put 135 = .ok (.iconst (-1), 1) := dq_2 (by decide +kernel)
theorem dX9_put_136 : decode cX9_put 136 = .ok (.iastore, 1) := dq_79 (by decide +kernel)
theorem dX9_put_137 : decode cX9_put 137 = .ok (.iinc 4 1, 3) := dq_132 (by decide +kernel)
theorem dX9_put_140 : decode cX9_put 140 = .ok (.goto (-67), 3) := dq_167 (by decide +kernel)
theorem dX9_put_143 : decode cX9_put 143 = .ok (.iconst 1, 1) := dq_4 (by decide +kernel)
theorem dX9_put_144 : decode cX9_put 144 = .ok (.ireturn, 1) := dq_172 (by decide +kernel)
theorem dX9_rate_0 : decode cX9_rate 0 = .ok (.aload_n 0, 1) := dq_42 (by decide +kernel)
theorem dX9_rate_1 : decode cX9_rate 1 = .ok (.iload_n 1, 1) := dq_27 (by decide +kernel)
theorem dX9_rate_2 : decode cX9_rate 2 = .ok (.invokevirtual 172, 3) := dq_182 (by decide +kernel)
theorem dX9_rate_5 : decode cX9_rate 5 = .ok (.ifCond .lt 21, 3) := dq_155 (by decide +kernel)
theorem dX9_rate_8 : decode cX9_rate 8 = .ok (.iload_n 2, 1) := dq_28 (by decide +kernel)
theorem dX9_rate_9 : decode cX9_rate 9 = .ok (.iconst 0, 1) := dq_3 (by decide +kernel)
theorem dX9_rate_10 : decode cX9_rate 10 = .ok (.sipush 398, 3) := dq_17 (by decide +kernel)
theorem dX9_rate_13 : decode cX9_rate 13 = .ok (.invokestatic 148, 3) := dq_184 (by decide +kernel)
theorem dX9_rate_16 : decode cX9_rate 16 = .ok (.ifCond .eq 10, 3) := dq_153 (by decide +kernel)
theorem dX9_rate_19 : decode cX9_rate 19 = .ok (.iload_n 3, 1) := dq_29 (by decide +kernel)
theorem dX9_rate_20 : decode cX9_rate 20 = .ok (.invokestatic 185, 3) := dq_184 (by decide +kernel)
theorem dX9_rate_23 : decode cX9_rate 23 = .ok (.ifCond .ne 8, 3) := dq_154 (by decide +kernel)
theorem dX9_rate_26 : decode cX9_rate 26 = .ok (.ldc 169, 2) := dq_18 (by decide +kernel)
theorem dX9_rate_28 : decode cX9_rate 28 = .ok (.goto 10, 3) := dq_167 (by decide +kernel)
theorem dX9_rate_31 : decode cX9_rate 31 = .ok (.aload_n 0, 1) := dq_42 (by decide +kernel)
theorem dX9_rate_32 : decode cX9_rate 32 = .ok (.iload_n 1, 1) := dq_27 (by decide +kernel)
theorem dX9_rate_33 : decode cX9_rate 33 = .ok (.iload_n 2, 1) := dq_28 (by decide +kernel)
theorem dX9_rate_34 : decode cX9_rate 34 = .ok (.iload_n 3, 1) := dq_29 (by decide +kernel)
theorem dX9_rate_35 : decode cX9_rate 35 = .ok (.invokevirtual 188, 3) := dq_182 (by decide +kernel)
theorem dX9_rate_38 : decode cX9_rate 38 = .ok (.ireturn, 1) := dq_172 (by decide +kernel)
theorem dX9_rateOf_0 : decode cX9_rateOf 0 = .ok (.sipush 400, 3) := dq_17 (by decide +kernel)
theorem dX9_rateOf_3 : decode cX9_rateOf 3 = .ok (.iload_n 1, 1) := dq_27 (by decide +kernel)
theorem dX9_rateOf_4 : decode cX9_rateOf 4 = .ok (.imul, 1) := dq_104 (by decide +kernel)
theorem dX9_rateOf_5 : decode cX9_rateOf 5 = .ok (.iload_n 2, 1) := dq_28 (by decide +kernel)
theorem dX9_rateOf_6 : decode cX9_rateOf 6 = .ok (.iadd, 1) := dq_96 (by decide +kernel)
theorem dX9_rateOf_7 : decode cX9_rateOf 7 = .ok (.istore 4, 2) := dq_54 (by decide +kernel)
theorem dX9_rateOf_9 : decode cX9_rateOf 9 = .ok (.aload_n 0, 1) := dq_42 (by decide +kernel)
theorem dX9_rateOf_10 : decode cX9_rateOf 10 = .ok (.getfield 33, 3) := dq_180 (by decide +kernel)
theorem dX9_rateOf_13 : decode cX9_rateOf 13 = .ok (.iload 4, 2) := dq_21 (by decide +kernel)
theorem dX9_rateOf_15 : decode cX9_rateOf 15 = .ok (.iconst 1, 1) := dq_4 (by decide +kernel)
theorem dX9_rateOf_16 : decode cX9_rateOf 16 = .ok (.iadd, 1) := dq_96 (by decide +kernel)
theorem dX9_rateOf_17 : decode cX9_rateOf 17 = .ok (.baload, 1) := dq_51 (by decide +kernel)
theorem dX9_rateOf_18 : decode cX9_rateOf 18 = .ok (.ifCond .ne 25, 3) := dq_154 (by decide +kernel)
theorem dX9_rateOf_21 : decode cX9_rateOf 21 = .ok (.aload_n 0, 1) := dq_42 (by decide +kernel)
theorem dX9_rateOf_22 : decode cX9_rateOf 22 = .ok (.getfield 36, 3) := dq_180 (by decide +kernel)
theorem dX9_rateOf_25 : decode cX9_rateOf 25 = .ok (.iload 4, 2) := dq_21 (by decide +kernel)
theorem dX9_rateOf_27 : decode cX9_rateOf 27 = .ok (.baload, 1) := dq_51 (by decide +kernel)
theorem dX9_rateOf_28 : decode cX9_rateOf 28 = .ok (.ifCond .ne 15, 3) := dq_154 (by decide +kernel)
theorem dX9_rateOf_31 : decode cX9_rateOf 31 = .ok (.aload_n 0, 1) := dq_42 (by decide +kernel)
theorem dX9_rateOf_32 : decode cX9_rateOf 32 = .ok (.getfield 36, 3) := dq_180 (by decide +kernel)
theorem dX9_rateOf_35 : decode cX9_rateOf 35 = .ok (.iload 4, 2) := dq_21 (by decide +kernel)
theorem dX9_rateOf_37 : decode cX9_rateOf 37 = .ok (.iconst 1, 1) := dq_4 (by decide +kernel)
theorem dX9_rateOf_38 : decode cX9_rateOf 38 = .ok (.iadd, 1) := dq_96 (by decide +kernel)
theorem dX9_rateOf_39 : decode cX9_rateOf 39 = .ok (.baload, 1) := dq_51 (by decide +kernel)
theorem dX9_rateOf_40 : decode cX9_rateOf 40 = .ok (.ifCond .eq 6, 3) := dq_153 (by decide +kernel)
theorem dX9_rateOf_43 : decode cX9_rateOf 43 = .ok (.ldc 169, 2) := dq_18 (by decide +kernel)
theorem dX9_rateOf_45 : decode cX9_rateOf 45 = .ok (.ireturn, 1) := dq_172 (by decide +kernel)
theorem dX9_rateOf_46 : decode cX9_rateOf 46 = .ok (.aload_n 0, 1) := dq_42 (by decide +kernel)
theorem dX9_rateOf_47 : decode cX9_rateOf 47 = .ok (.iload_n 1, 1) := dq_27 (by decide +kernel)
theorem dX9_rateOf_48 : decode cX9_rateOf 48 = .ok (.iload_n 2, 1) := dq_28 (by decide +kernel)
theorem dX9_rateOf_49 : decode cX9_rateOf 49 = .ok (.iload_n 3, 1) := dq_29 (by decide +kernel)
theorem dX9_rateOf_50 : decode cX9_rateOf 50 = .ok (.invokevirtual 178, 3) := dq_182 (by decide +kernel)
theorem dX9_rateOf_53 : decode cX9_rateOf 53 = .ok (.istore 5, 2) := dq_54 (by decide +kernel)
theorem dX9_rateOf_55 : decode cX9_rateOf 55 = .ok (.aload_n 0, 1) := dq_42 (by decide +kernel)
theorem dX9_rateOf_56 : decode cX9_rateOf 56 = .ok (.iload_n 1, 1) := dq_27 (by decide +kernel)
theorem dX9_rateOf_57 : decode cX9_rateOf 57 = .ok (.iload_n 2, 1) := dq_28 (by decide +kernel)
theorem dX9_rateOf_58 : decode cX9_rateOf 58 = .ok (.iconst 1, 1) := dq_4 (by decide +kernel)
theorem dX9_rateOf_59 : decode cX9_rateOf 59 = .ok (.iadd, 1) := dq_96 (by decide +kernel)
theorem dX9_rateOf_60 : decode cX9_rateOf 60 = .ok (.iload_n 3, 1) := dq_29 (by decide +kernel)
theorem dX9_rateOf_61 : decode cX9_rateOf 61 = .ok (.invokevirtual 178, 3) := dq_182 (by decide +kernel)
theorem dX9_rateOf_64 : decode cX9_rateOf 64 = .ok (.istore 6, 2) := dq_54 (by decide +kernel)
theorem dX9_rateOf_66 : decode cX9_rateOf 66 = .ok (.iload 5, 2) := dq_21 (by decide +kernel)
theorem dX9_rateOf_68 : decode cX9_rateOf 68 = .ok (.ldc 169, 2) := dq_18 (by decide +kernel)
theorem dX9_rateOf_70 : decode cX9_rateOf 70 = .ok (.if_icmp .eq 24, 3) := dq_159 (by decide +kernel)
theorem dX9_rateOf_73 : decode cX9_rateOf 73 = .ok (.iload 6, 2) := dq_21 (by decide +kernel)
theorem dX9_rateOf_75 : decode cX9_rateOf 75 = .ok (.ldc 169, 2) := dq_18 (by decide +kernel)
theorem dX9_rateOf_77 : decode cX9_rateOf 77 = .ok (.if_icmp .eq 17, 3) := dq_159 (by decide +kernel)
theorem dX9_rateOf_80 : decode cX9_rateOf 80 = .ok (.iload 6, 2) := dq_21 (by decide +kernel)
theorem dX9_rateOf_82 : decode cX9_rateOf 82 = .ok (.iload 5, 2) := dq_21 (by decide +kernel)
theorem dX9_rateOf_84 : decode cX9_rateOf 84 = .ok (.isub, 1) := dq_100 (by decide +kernel)
theorem dX9_rateOf_85 : decode cX9_rateOf 85 = .ok (.invokestatic 182, 3) := dq_184 (by decide +kernel)
theorem dX9_rateOf_88 : decode cX9_rateOf 88 = .ok (.sipush 999, 3) := dq_17 (by decide +kernel)
theorem dX9_rateOf_91 : decode cX9_rateOf 91 = .ok (.if_icmp .le 8, 3) := dq_164 (by decide +kernel)
theorem dX9_rateOf_94 : decode cX9_rateOf 94 = .ok (.ldc 169, 2) := dq_18 (by decide +kernel)
theorem dX9_rateOf_96 : decode cX9_rateOf 96 = .ok (.goto 8, 3) := dq_167 (by decide +kernel)
theorem dX9_rateOf_99 : decode cX9_rateOf 99 = .ok (.iload 6, 2) := dq_21 (by decide +kernel)
theorem dX9_rateOf_101 : decode cX9_rateOf 101 = .ok (.iload 5, 2) := dq_21 (by decide +kernel)
theorem dX9_rateOf_103 : decode cX9_rateOf 103 = .ok (.isub, 1) := dq_100 (by decide +kernel)
theorem dX9_rateOf_104 : decode cX9_rateOf 104 = .ok (.ireturn, 1) := dq_172 (by decide +kernel)
theorem dX9_read_0 : decode cX9_read 0 = .ok (.iload_n 1, 1) := dq_27 (by decide +kernel)
theorem dX9_read_1 : decode cX9_read 1 = .ok (.invokestatic 152, 3) := dq_184 (by decide +kernel)
theorem dX9_read_4 : decode cX9_read 4 = .ok (.ifCond .eq 23, 3) := dq_153 (by decide +kernel)
theorem dX9_read_7 : decode cX9_read 7 = .ok (.aload_n 0, 1) := dq_42 (by decide +kernel)
theorem dX9_read_8 : decode cX9_read 8 = .ok (.getfield 17, 3) := dq_180 (by decide +kernel)
theorem dX9_read_11 : decode cX9_read 11 = .ok (.iload_n 1, 1) := dq_27 (by decide +kernel)
theorem dX9_read_12 : decode cX9_read 12 = .ok (.iaload, 1) := dq_46 (by decide +kernel)
theorem dX9_read_13 : decode cX9_read 13 = .ok (.iconst 1, 1) := dq_4 (by decide +kernel)
theorem dX9_read_14 : decode cX9_read 14 = .ok (.if_icmp .eq 18, 3) := dq_159 (by decide +kernel)
theorem dX9_read_17 : decode cX9_read 17 = .ok (.aload_n 0, 1) := dq_42 (by decide +kernel)
theorem dX9_read_18 : decode cX9_read 18 = .ok (.getfield 17, 3) := dq_180 (by decide +kernel)
theorem dX9_read_21 : decode cX9_read 21 = .ok (.iload_n 1, 1) := dq_27 (by decide +kernel)
theorem dX9_read_22 : decode cX9_read 22 = .ok (.iaload, 1) := dq_46 (by decide +kernel)
theorem dX9_read_23 : decode cX9_read 23 = .ok (.iconst 2, 1) := dq_5 (by decide +kernel)
theorem dX9_read_24 : decode cX9_read 24 = .ok (.if_icmp .eq 8, 3) := dq_159 (by decide +kernel)
theorem dX9_read_27 : decode cX9_read 27 = .ok (.ldc 169, 2) := dq_18 (by decide +kernel)
theorem dX9_read_29 : decode cX9_read 29 = .ok (.goto 9, 3) := dq_167 (by decide +kernel)
theorem dX9_read_32 : decode cX9_read 32 = .ok (.aload_n 0, 1) := dq_42 (by decide +kernel)
theorem dX9_read_33 : decode cX9_read 33 = .ok (.getfield 20, 3) := dq_180 (by decide +kernel)
theorem dX9_read_36 : decode cX9_read 36 = .ok (.iload_n 1, 1) := dq_27 (by decide +kernel)
theorem dX9_read_37 : decode cX9_read 37 = .ok (.iaload, 1) := dq_46 (by decide +kernel)
theorem dX9_read_38 : decode cX9_read 38 = .ok (.ireturn, 1) := dq_172 (by decide +kernel)
theorem dX9_readRule_0 : decode cX9_readRule 0 = .ok (.aload_n 0, 1) := dq_42 (by decide +kernel)
theorem dX9_readRule_1 : decode cX9_readRule 1 = .ok (.iconst 0, 1) := dq_3 (by decide +kernel)
theorem dX9_readRule_2 : decode cX9_readRule 2 = .ok (.putfield 287, 3) := dq_181 (by decide +kernel)
theorem dX9_readRule_5 : decode cX9_readRule 5 = .ok (.aload_n 0, 1) := dq_42 (by decide +kernel)
theorem dX9_readRule_6 : decode cX9_readRule 6 = .ok (.iconst 0, 1) := dq_3 (by decide +kernel)
theorem dX9_readRule_7 : decode cX9_readRule 7 = .ok (.putfield 351, 3) := dq_181 (by decide +kernel)
theorem dX9_readRule_10 : decode cX9_readRule 10 = .ok (.aload_n 0, 1) := dq_42 (by decide +kernel)
theorem dX9_readRule_11 : decode cX9_readRule 11 = .ok (.iconst 0, 1) := dq_3 (by decide +kernel)
theorem dX9_readRule_12 : decode cX9_readRule 12 = .ok (.putfield 348, 3) := dq_181 (by decide +kernel)
theorem dX9_readRule_15 : decode cX9_readRule 15 = .ok (.iconst 1, 1) := dq_4 (by decide +kernel)
theorem dX9_readRule_16 : decode cX9_readRule 16 = .ok (.istore_n 2, 1) := dq_61 (by decide +kernel)
theorem dX9_readRule_17 : decode cX9_readRule 17 = .ok (.iconst 1, 1) := dq_4 (by decide +kernel)
theorem dX9_readRule_18 : decode cX9_readRule 18 = .ok (.istore_n 3, 1) := dq_62 (by decide +kernel)
theorem dX9_readRule_19 : decode cX9_readRule 19 = .ok (.aload_n 0, 1) := dq_42 (by decide +kernel)
theorem dX9_readRule_20 : decode cX9_readRule 20 = .ok (.iload_n 1, 1) := dq_27 (by decide +kernel)
theorem dX9_readRule_21 : decode cX9_readRule 21 = .ok (.invokevirtual 361, 3) := dq_182 (by decide +kernel)
theorem dX9_readRule_24 : decode cX9_readRule 24 = .ok (.iload_n 2, 1) := dq_28 (by decide +kernel)
theorem dX9_readRule_25 : decode cX9_readRule 25 = .ok (.ifCond .eq 158, 3) := dq_153 (by decide +kernel)
theorem dX9_readRule_28 : decode cX9_readRule 28 = .ok (.aload_n 0, 1) := dq_42 (by decide +kernel)
theorem dX9_readRule_29 : decode cX9_readRule 29 = .ok (.getfield 293, 3) := dq_180 (by decide +kernel)
theorem dX9_readRule_32 : decode cX9_readRule 32 = .ok (.bipush 30, 2) := dq_16 (by decide +kernel)
theorem dX9_readRule_34 : decode cX9_readRule 34 = .ok (.if_icmp .ne 7, 3) := dq_160 (by decide +kernel)
theorem dX9_readRule_37 : decode cX9_readRule 37 = .ok (.iload_n 3, 1) := dq_29 (by decide +kernel)
theorem dX9_readRule_38 : decode cX9_readRule 38 = .ok (.ifCond .ne 29, 3) := dq_154 (by decide +kernel)
theorem dX9_readRule_41 : decode cX9_readRule 41 = .ok (.aload_n 0, 1) := dq_42 (by decide +kernel)
theorem dX9_readRule_42 : decode cX9_readRule 42 = .ok (.getfield 293, 3) := dq_180 (by decide +kernel)
theorem dX9_readRule_45 : decode cX9_readRule 45 = .ok (.bipush 51, 2) := dq_16 (by decide +kernel)
theorem dX9_readRule_47 : decode cX9_readRule 47 = .ok (.if_icmp .eq 20, 3) := dq_159 (by decide +kernel)
theorem dX9_readRule_50 : decode cX9_readRule 50 = .ok (.aload_n 0, 1) := dq_42 (by decide +kernel)
theorem dX9_readRule_51 : decode cX9_readRule 51 = .ok (.getfield 293, 3) := dq_180 (by decide +kernel)
theorem dX9_readRule_54 : decode cX9_readRule 54 = .ok (.iconst 5, 1) := dq_8 (by decide +kernel)
theorem dX9_readRule_55 : decode cX9_readRule 55 = .ok (.if_icmp .eq 12, 3) := dq_159 (by decide +kernel)
theorem dX9_readRule_58 : decode cX9_readRule 58 = .ok (.aload_n 0, 1) := dq_42 (by decide +kernel)
theorem dX9_readRule_59 : decode cX9_readRule 59 = .ok (.getfield 293, 3) := dq_180 (by decide +kernel)
theorem dX9_readRule_62 : decode cX9_readRule 62 = .ok (.bipush 71, 2) := dq_16 (by decide +kernel)
theorem dX9_readRule_64 : decode cX9_readRule 64 = .ok (.if_icmp .ne 80, 3) := dq_160 (by decide +kernel)
theorem dX9_readRule_67 : decode cX9_readRule 67 = .ok (.aload_n 0, 1) := dq_42 (by decide +kernel)
theorem dX9_readRule_68 : decode cX9_readRule 68 = .ok (.invokevirtual 365, 3) := dq_182 (by decide +kernel)
theorem dX9_readRule_71 : decode cX9_readRule 71 = .ok (.bipush 15, 2) := dq_16 (by decide +kernel)
theorem dX9_readRule_73 : decode cX9_readRule 73 = .ok (.if_icmp .ne 8, 3) := dq_160 (by decide +kernel)
theorem dX9_readRule_76 : decode cX9_readRule 76 = .ok (.aload_n 0, 1) := dq_42 (by decide +kernel)
theorem dX9_readRule_77 : decode cX9_readRule 77 = .ok (.getfield 290, 3) := dq_180 (by decide +kernel)
theorem dX9_readRule_80 : decode cX9_readRule 80 = .ok (.ireturn, 1) := dq_172 (by decide +kernel)
theorem dX9_readRule_81 : decode cX9_readRule 81 = .ok (.aload_n 0, 1) := dq_42 (by decide +kernel)
theorem dX9_readRule_82 : decode cX9_readRule 82 = .ok (.getfield 82, 3) := dq_180 (by decide +kernel)
theorem dX9_readRule_85 : decode cX9_readRule 85 = .ok (.aload_n 0, 1) := dq_42 (by decide +kernel)
theorem dX9_readRule_86 : decode cX9_readRule 86 = .ok (.getfield 351, 3) := dq_180 (by decide +kernel)
theorem dX9_readRule_89 : decode cX9_readRule 89 = .ok (.aload_n 0, 1) := dq_42 (by decide +kernel)
theorem dX9_readRule_90 : decode cX9_readRule 90 = .ok (.getfield 293, 3) := dq_180 (by decide +kernel)
theorem dX9_readRule_93 : decode cX9_readRule 93 = .ok (.bipush 51, 2) := dq_16 (by decide +kernel)
theorem dX9_readRule_95 : decode cX9_readRule 95 = .ok (.if_icmp .ne 8, 3) := dq_160 (by decide +kernel)
theorem dX9_readRule_98 : decode cX9_readRule 98 = .ok (.bipush 70, 2) := dq_16 (by decide +kernel)
theorem dX9_readRule_100 : decode cX9_readRule 100 = .ok (.goto 7, 3) := dq_167 (by decide +kernel)
theorem dX9_readRule_103 : decode cX9_readRule 103 = .ok (.aload_n 0, 1) := dq_42 (by decide +kernel)
theorem dX9_readRule_104 : decode cX9_readRule 104 = .ok (.getfield 293, 3) := dq_180 (by decide +kernel)
theorem dX9_readRule_107 : decode cX9_readRule 107 = .ok (.iastore, 1) := dq_79 (by decide +kernel)
theorem dX9_readRule_108 : decode cX9_readRule 108 = .ok (.aload_n 0, 1) := dq_42 (by decide +kernel)
theorem dX9_readRule_109 : decode cX9_readRule 109 = .ok (.dup, 1) := dq_89 (by decide +kernel)
theorem dX9_readRule_110 : decode cX9_readRule 110 = .ok (.getfield 351, 3) := dq_180 (by decide +kernel)
theorem dX9_readRule_113 : decode cX9_readRule 113 = .ok (.iconst 1, 1) := dq_4 (by decide +kernel)
theorem dX9_readRule_114 : decode cX9_readRule 114 = .ok (.iadd, 1) := dq_96 (by decide +kernel)
theorem dX9_readRule_115 : decode cX9_readRule 115 = .ok (.putfield 351, 3) := dq_181 (by decide +kernel)
theorem dX9_readRule_118 : decode cX9_readRule 118 = .ok (.aload_n 0, 1) := dq_42 (by decide +kernel)
theorem dX9_readRule_119 : decode cX9_readRule 119 = .ok (.getfield 293, 3) := dq_180 (by decide +kernel)
theorem dX9_readRule_122 : decode cX9_readRule 122 = .ok (.iconst 5, 1) := dq_8 (by decide +kernel)
theorem dX9_readRule_123 : decode cX9_readRule 123 = .ok (.if_icmp .eq 12, 3) := dq_159 (by decide +kernel)
theorem dX9_readRule_126 : decode cX9_readRule 126 = .ok (.aload_n 0, 1) := dq_42 (by decide +kernel)
theorem dX9_readRule_127 : decode cX9_readRule 127 = .ok (.getfield 293, 3) := dq_180 (by decide +kernel)
theorem dX9_readRule_130 : decode cX9_readRule 130 = .ok (.bipush 30, 2) := dq_16 (by decide +kernel)
theorem dX9_readRule_132 : decode cX9_readRule 132 = .ok (.if_icmp .ne 7, 3) := dq_160 (by decide +kernel)
theorem dX9_readRule_135 : decode cX9_readRule 135 = .ok (.iconst 1, 1) := dq_4 (by decide +kernel)
theorem dX9_readRule_136 : decode cX9_readRule 136 = .ok (.goto 4, 3) := dq_167 (by decide +kernel)
theorem dX9_readRule_139 : decode cX9_readRule 139 = .ok (.iconst 0, 1) := dq_3 (by decide +kernel)
theorem dX9_readRule_140 : decode cX9_readRule 140 = .ok (.istore_n 3, 1) := dq_62 (by decide +kernel)
theorem dX9_readRule_141 : decode cX9_readRule 141 = .ok (.goto 263, 3) := dq_167 (by decide +kernel)
theorem dX9_readRule_144 : decode cX9_readRule 144 = .ok (.aload_n 0, 1) := dq_42 (by decide +kernel)
theorem dX9_readRule_145 : decode cX9_readRule 145 = .ok (.getfield 293, 3) := dq_180 (by decide +kernel)
theorem dX9_readRule_148 : decode cX9_readRule 148 = .ok (.iconst 1, 1) := dq_4 (by decide +kernel)
theorem dX9_readRule_149 : decode cX9_readRule 149 = .ok (.if_icmp .eq 12, 3) := dq_159 (by decide +kernel)
theorem dX9_readRule_152 : decode cX9_readRule 152 = .ok (.aload_n 0, 1) := dq_42 (by decide +kernel)
theorem dX9_readRule_153 : decode cX9_readRule 153 = .ok (.getfield 293, 3) := dq_180 (by decide +kernel)
theorem dX9_readRule_156 : decode cX9_readRule 156 = .ok (.bipush 100, 2) := dq_16 (by decide +kernel)
theorem dX9_readRule_158 : decode cX9_readRule 158 = .ok (.if_icmp .lt 20, 3) := dq_161 (by decide +kernel)
theorem dX9_readRule_161 : decode cX9_readRule 161 = .ok (.aload_n 0, 1) := dq_42 (by decide +kernel)
theorem dX9_readRule_162 : decode cX9_readRule 162 = .ok (.aload_n 0, 1) := dq_42 (by decide +kernel)
theorem dX9_readRule_163 : decode cX9_readRule 163 = .ok (.getfield 293, 3) := dq_180 (by decide +kernel)
theorem dX9_readRule_166 : decode cX9_readRule 166 = .ok (.aload_n 0, 1) := dq_42 (by decide +kernel)
theorem dX9_readRule_167 : decode cX9_readRule 167 = .ok (.getfield 310, 3) := dq_180 (by decide +kernel)
theorem dX9_readRule_170 : decode cX9_readRule 170 = .ok (.invokevirtual 357, 3) := dq_182 (by decide +kernel)
theorem dX9_readRule_173 : decode cX9_readRule 173 = .ok (.iconst 0, 1) := dq_3 (by decide +kernel)
theorem dX9_readRule_174 : decode cX9_readRule 174 = .ok (.istore_n 2, 1) := dq_61 (by decide +kernel)
theorem dX9_readRule_175 : decode cX9_readRule 175 = .ok (.goto 229, 3) := dq_167 (by decide +kernel)
theorem dX9_readRule_178 : decode cX9_readRule 178 = .ok (.aload_n 0, 1) := dq_42 (by decide +kernel)
theorem dX9_readRule_179 : decode cX9_readRule 179 = .ok (.getfield 290, 3) := dq_180 (by decide +kernel)
theorem dX9_readRule_182 : decode cX9_readRule 182 = .ok (.ireturn, 1) := dq_172 (by decide +kernel)
theorem dX9_readRule_183 : decode cX9_readRule 183 = .ok (.aload_n 0, 1) := dq_42 (by decide +kernel)
theorem dX9_readRule_184 : decode cX9_readRule 184 = .ok (.getfield 293, 3) := dq_180 (by decide +kernel)
theorem dX9_readRule_187 : decode cX9_readRule 187 = .ok (.bipush 6, 2) := dq_16 (by decide +kernel)
theorem dX9_readRule_189 : decode cX9_readRule 189 = .ok (.if_icmp .ne 33, 3) := dq_160 (by decide +kernel)
theorem dX9_readRule_192 : decode cX9_readRule 192 = .ok (.aload_n 0, 1) := dq_42 (by decide +kernel)
theorem dX9_readRule_193 : decode cX9_readRule 193 = .ok (.iconst 1, 1) := dq_4 (by decide +kernel)
theorem dX9_readRule_194 : decode cX9_readRule 194 = .ok (.invokevirtual 368, 3) := dq_182 (by decide +kernel)
theorem dX9_readRule_197 : decode cX9_readRule 197 = .ok (.aload_n 0, 1) := dq_42 (by decide +kernel)
theorem dX9_readRule_198 : decode cX9_readRule 198 = .ok (.getfield 351, 3) := dq_180 (by decide +kernel)
theorem dX9_readRule_201 : decode cX9_readRule 201 = .ok (.ifCond .ne 8, 3) := dq_154 (by decide +kernel)
theorem dX9_readRule_204 : decode cX9_readRule 204 = .ok (.aload_n 0, 1) := dq_42 (by decide +kernel)
theorem dX9_readRule_205 : decode cX9_readRule 205 = .ok (.getfield 290, 3) := dq_180 (by decide +kernel)
theorem dX9_readRule_208 : decode cX9_readRule 208 = .ok (.ireturn, 1) := dq_172 (by decide +kernel)
theorem dX9_readRule_209 : decode cX9_readRule 209 = .ok (.aload_n 0, 1) := dq_42 (by decide +kernel)
theorem dX9_readRule_210 : decode cX9_readRule 210 = .ok (.dup, 1) := dq_89 (by decide +kernel)
theorem dX9_readRule_211 : decode cX9_readRule 211 = .ok (.getfield 351, 3) := dq_180 (by decide +kernel)
theorem dX9_readRule_214 : decode cX9_readRule 214 = .ok (.iconst 1, 1) := dq_4 (by decide +kernel)
theorem dX9_readRule_215 : decode cX9_readRule 215 = .ok (.isub, 1) := dq_100 (by decide +kernel)
theorem dX9_readRule_216 : decode cX9_readRule 216 = .ok (.putfield 351, 3) := dq_181 (by decide +kernel)
theorem dX9_readRule_219 : decode cX9_readRule 219 = .ok (.goto 185, 3) := dq_167 (by decide +kernel)
theorem dX9_readRule_222 : decode cX9_readRule 222 = .ok (.aload_n 0, 1) := dq_42 (by decide +kernel)
theorem dX9_readRule_223 : decode cX9_readRule 223 = .ok (.getfield 293, 3) := dq_180 (by decide +kernel)
theorem dX9_readRule_226 : decode cX9_readRule 226 = .ok (.ifCond .ne 24, 3) := dq_154 (by decide +kernel)
theorem dX9_readRule_229 : decode cX9_readRule 229 = .ok (.aload_n 0, 1) := dq_42 (by decide +kernel)
theorem dX9_readRule_230 : decode cX9_readRule 230 = .ok (.iconst 1, 1) := dq_4 (by decide +kernel)
theorem dX9_readRule_231 : decode cX9_readRule 231 = .ok (.invokevirtual 368, 3) := dq_182 (by decide +kernel)
theorem dX9_readRule_234 : decode cX9_readRule 234 = .ok (.aload_n 0, 1) := dq_42 (by decide +kernel)
theorem dX9_readRule_235 : decode cX9_readRule 235 = .ok (.getfield 351, 3) := dq_180 (by decide +kernel)
theorem dX9_readRule_238 : decode cX9_readRule 238 = .ok (.ifCond .ne 7, 3) := dq_154 (by decide +kernel)
theorem dX9_readRule_241 : decode cX9_readRule 241 = .ok (.iconst (-1), 1) := dq_2 (by decide +kernel)
theorem dX9_readRule_242 : decode cX9_readRule 242 = .ok (.goto 7, 3) := dq_167 (by decide +kernel)
theorem dX9_readRule_245 : decode cX9_readRule 245 = .ok (.aload_n 0, 1) := dq_42 (by decide +kernel)
theorem dX9_readRule_246 : decode cX9_readRule 246 = .ok (.getfield 290, 3) := dq_180 (by decide +kernel)
theorem dX9_readRule_249 : decode cX9_readRule 249 = .ok (.ireturn, 1) := dq_172 (by decide +kernel)
theorem dX9_readRule_250 : decode cX9_readRule 250 = .ok (.aload_n 0, 1) := dq_42 (by decide +kernel)
theorem dX9_readRule_251 : decode cX9_readRule 251 = .ok (.getfield 293, 3) := dq_180 (by decide +kernel)
theorem dX9_readRule_254 : decode cX9_readRule 254 = .ok (.bipush 10, 2) := dq_16 (by decide +kernel)
theorem dX9_readRule_256 : decode cX9_readRule 256 = .ok (.if_icmp .lt 21, 3) := dq_161 (by decide +kernel)
theorem dX9_readRule_259 : decode cX9_readRule 259 = .ok (.aload_n 0, 1) := dq_42 (by decide +kernel)
theorem dX9_readRule_260 : decode cX9_readRule 260 = .ok (.getfield 293, 3) := dq_180 (by decide +kernel)
theorem dX9_readRule_263 : decode cX9_readRule 263 = .ok (.bipush 70, 2) := dq_16 (by decide +kernel)
theorem dX9_readRule_265 : decode cX9_readRule 265 = .ok (.if_icmp .ge 12, 3) := dq_162 (by decide +kernel)
theorem dX9_readRule_268 : decode cX9_readRule 268 = .ok (.aload_n 0, 1) := dq_42 (by decide +kernel)
theorem dX9_readRule_269 : decode cX9_readRule 269 = .ok (.getfield 293, 3) := dq_180 (by decide +kernel)
theorem dX9_readRule_272 : decode cX9_readRule 272 = .ok (.bipush 30, 2) := dq_16 (by decide +kernel)
theorem dX9_readRule_274 : decode cX9_readRule 274 = .ok (.if_icmp .ne 8, 3) := dq_160 (by decide +kernel)
theorem dX9_readRule_277 : decode cX9_readRule 277 = .ok (.aload_n 0, 1) := dq_42 (by decide +kernel)
theorem dX9_readRule_278 : decode cX9_readRule 278 = .ok (.getfield 290, 3) := dq_180 (by decide +kernel)
theorem dX9_readRule_281 : decode cX9_readRule 281 = .ok (.ireturn, 1) := dq_172 (by decide +kernel)
theorem dX9_readRule_282 : decode cX9_readRule 282 = .ok (.aload_n 0, 1) := dq_42 (by decide +kernel)
theorem dX9_readRule_283 : decode cX9_readRule 283 = .ok (.getfield 293, 3) := dq_180 (by decide +kernel)
theorem dX9_readRule_286 : decode cX9_readRule 286 = .ok (.invokestatic 354, 3) := dq_184 (by decide +kernel)
theorem dX9_readRule_289 : decode cX9_readRule 289 = .ok (.iconst 4, 1) := dq_7 (by decide +kernel)
theorem dX9_readRule_290 : decode cX9_readRule 290 = .ok (.if_icmp .ne 7, 3) := dq_160 (by decide +kernel)
theorem dX9_readRule_293 : decode cX9_readRule 293 = .ok (.iconst 1, 1) := dq_4 (by decide +kernel)
theorem dX9_readRule_294 : decode cX9_readRule 294 = .ok (.goto 4, 3) := dq_167 (by decide +kernel)
theorem dX9_readRule_297 : decode cX9_readRule 297 = .ok (.iconst 0, 1) := dq_3 (by decide +kernel)
theorem dX9_readRule_298 : decode cX9_readRule 298 = .ok (.istore 4, 2) := dq_54 (by decide +kernel)
theorem dX9_readRule_300 : decode cX9_readRule 300 = .ok (.aload_n 0, 1) := dq_42 (by decide +kernel)
theorem dX9_readRule_301 : decode cX9_readRule 301 = .ok (.iload 4, 2) := dq_21 (by decide +kernel)
theorem dX9_readRule_303 : decode cX9_readRule 303 = .ok (.ifCond .eq 7, 3) := dq_153 (by decide +kernel)
theorem dX9_readRule_306 : decode cX9_readRule 306 = .ok (.iconst 5, 1) := dq_8 (by decide +kernel)
theorem dX9_readRule_307 : decode cX9_readRule 307 = .ok (.goto 10, 3) := dq_167 (by decide +kernel)
theorem dX9_readRule_310 : decode cX9_readRule 310 = .ok (.aload_n 0, 1) := dq_42 (by decide +kernel)
theorem dX9_readRule_311 : decode cX9_readRule 311 = .ok (.getfield 293, 3) := dq_180 (by decide +kernel)
theorem dX9_readRule_314 : decode cX9_readRule 314 = .ok (.invokestatic 354, 3) := dq_184 (by decide +kernel)
theorem dX9_readRule_317 : decode cX9_readRule 317 = .ok (.invokevirtual 368, 3) := dq_182 (by decide +kernel)
theorem dX9_readRule_320 : decode cX9_readRule 320 = .ok (.iload 4, 2) := dq_21 (by decide +kernel)
theorem dX9_readRule_322 : decode cX9_readRule 322 = .ok (.ifCond .eq 33, 3) := dq_153 (by decide +kernel)
theorem dX9_readRule_325 : decode cX9_readRule 325 = .ok (.aload_n 0, 1) := dq_42 (by decide +kernel)
theorem dX9_readRule_326 : decode cX9_readRule 326 = .ok (.getfield 351, 3) := dq_180 (by decide +kernel)
theorem dX9_readRule_329 : decode cX9_readRule 329 = .ok (.ifCond .le 26, 3) := dq_158 (by decide +kernel)
theorem dX9_readRule_332 : decode cX9_readRule 332 = .ok (.aload_n 0, 1) := dq_42 (by decide +kernel)
theorem dX9_readRule_333 : decode cX9_readRule 333 = .ok (.getfield 82, 3) := dq_180 (by decide +kernel)
theorem dX9_readRule_336 : decode cX9_readRule 336 = .ok (.aload_n 0, 1) := dq_42 (by decide +kernel)
theorem dX9_readRule_337 : decode cX9_readRule 337 = .ok (.getfield 351, 3) := dq_180 (by decide +kernel)
theorem dX9_readRule_340 : decode cX9_readRule 340 = .ok (.iconst 1, 1) := dq_4 (by decide +kernel)
theorem dX9_readRule_341 : decode cX9_readRule 341 = .ok (.isub, 1) := dq_100 (by decide +kernel)
theorem dX9_readRule_342 : decode cX9_readRule 342 = .ok (.iaload, 1) := dq_46 (by decide +kernel)
theorem dX9_readRule_343 : decode cX9_readRule 343 = .ok (.invokestatic 354, 3) := dq_184 (by decide +kernel)
theorem dX9_readRule_346 : decode cX9_readRule 346 = .ok (.iconst 4, 1) := dq_7 (by decide +kernel)
theorem dX9_readRule_347 : decode cX9_readRule 347 = .ok (.if_icmp .ne 8, 3) := dq_160 (by decide +kernel)
theorem dX9_readRule_350 : decode cX9_readRule 350 = .ok (.aload_n 0, 1) := dq_42 (by decide +kernel)
theorem dX9_readRule_351 : decode cX9_readRule 351 = .ok (.getfield 290, 3) := dq_180 (by decide +kernel)
theorem dX9_readRule_354 : decode cX9_readRule 354 = .ok (.ireturn, 1) := dq_172 (by decide +kernel)
theorem dX9_readRule_355 : decode cX9_readRule 355 = .ok (.aload_n 0, 1) := dq_42 (by decide +kernel)
theorem dX9_readRule_356 : decode cX9_readRule 356 = .ok (.getfield 82, 3) := dq_180 (by decide +kernel)
theorem dX9_readRule_359 : decode cX9_readRule 359 = .ok (.aload_n 0, 1) := dq_42 (by decide +kernel)
theorem dX9_readRule_360 : decode cX9_readRule 360 = .ok (.getfield 351, 3) := dq_180 (by decide +kernel)
theorem dX9_readRule_363 : decode cX9_readRule 363 = .ok (.aload_n 0, 1) := dq_42 (by decide +kernel)
theorem dX9_readRule_364 : decode cX9_readRule 364 = .ok (.getfield 293, 3) := dq_180 (by decide +kernel)
theorem dX9_readRule_367 : decode cX9_readRule 367 = .ok (.iastore, 1) := dq_79 (by decide +kernel)
theorem dX9_readRule_368 : decode cX9_readRule 368 = .ok (.aload_n 0, 1) := dq_42 (by decide +kernel)
theorem dX9_readRule_369 : decode cX9_readRule 369 = .ok (.dup, 1) := dq_89 (by decide +kernel)
theorem dX9_readRule_370 : decode cX9_readRule 370 = .ok (.getfield 351, 3) := dq_180 (by decide +kernel)
theorem dX9_readRule_373 : decode cX9_readRule 373 = .ok (.iconst 1, 1) := dq_4 (by decide +kernel)
theorem dX9_readRule_374 : decode cX9_readRule 374 = .ok (.iadd, 1) := dq_96 (by decide +kernel)
theorem dX9_readRule_375 : decode cX9_readRule 375 = .ok (.putfield 351, 3) := dq_181 (by decide +kernel)
theorem dX9_readRule_378 : decode cX9_readRule 378 = .ok (.iconst 1, 1) := dq_4 (by decide +kernel)
theorem dX9_readRule_379 : decode cX9_readRule 379 = .ok (.istore_n 2, 1) := dq_61 (by decide +kernel)
theorem dX9_readRule_380 : decode cX9_readRule 380 = .ok (.aload_n 0, 1) := dq_42 (by decide +kernel)
theorem dX9_readRule_381 : decode cX9_readRule 381 = .ok (.getfield 293, 3) := dq_180 (by decide +kernel)
theorem dX9_readRule_384 : decode cX9_readRule 384 = .ok (.bipush 10, 2) := dq_16 (by decide +kernel)
theorem dX9_readRule_386 : decode cX9_readRule 386 = .ok (.if_icmp .eq 12, 3) := dq_159 (by decide +kernel)
theorem dX9_readRule_389 : decode cX9_readRule 389 = .ok (.aload_n 0, 1) := dq_42 (by decide +kernel)
theorem dX9_readRule_390 : decode cX9_readRule 390 = .ok (.getfield 293, 3) := dq_180 (by decide +kernel)
theorem dX9_readRule_393 : decode cX9_readRule 393 = .ok (.bipush 20, 2) := dq_16 (by decide +kernel)
theorem dX9_readRule_395 : decode cX9_readRule 395 = .ok (.if_icmp .ne 7, 3) := dq_160 (by decide +kernel)
theorem dX9_readRule_398 : decode cX9_readRule 398 = .ok (.iconst 1, 1) := dq_4 (by decide +kernel)
theorem dX9_readRule_399 : decode cX9_readRule 399 = .ok (.goto 4, 3) := dq_167 (by decide +kernel)
theorem dX9_readRule_402 : decode cX9_readRule 402 = .ok (.iconst 0, 1) := dq_3 (by decide +kernel)
theorem dX9_readRule_403 : decode cX9_readRule 403 = .ok (.istore_n 3, 1) := dq_62 (by decide +kernel)
theorem dX9_readRule_404 : decode cX9_readRule 404 = .ok (.aload_n 0, 1) := dq_42 (by decide +kernel)
theorem dX9_readRule_405 : decode cX9_readRule 405 = .ok (.iload_n 1, 1) := dq_27 (by decide +kernel)
theorem dX9_readRule_406 : decode cX9_readRule 406 = .ok (.invokevirtual 361, 3) := dq_182 (by decide +kernel)
theorem dX9_readRule_409 : decode cX9_readRule 409 = .ok (.goto (-385), 3) := dq_167 (by decide +kernel)
theorem dX9_repair_0 : decode cX9_repair 0 = .ok (.iload_n 1, 1) := dq_27 (by decide +kernel)
theorem dX9_repair_1 : decode cX9_repair 1 = .ok (.invokestatic 152, 3) := dq_184 (by decide +kernel)
theorem dX9_repair_4 : decode cX9_repair 4 = .ok (.ifCond .eq 15, 3) := dq_153 (by decide +kernel)
theorem dX9_repair_7 : decode cX9_repair 7 = .ok (.iload_n 2, 1) := dq_28 (by decide +kernel)
theorem dX9_repair_8 : decode cX9_repair 8 = .ok (.iconst 0, 1) := dq_3 (by decide +kernel)
theorem dX9_repair_9 : decode cX9_repair 9 = .ok (.aload_n 0, 1) := dq_42 (by decide +kernel)
theorem dX9_repair_10 : decode cX9_repair 10 = .ok (.getfield 156, 3) := dq_180 (by decide +kernel)
theorem dX9_repair_13 : decode cX9_repair 13 = .ok (.invokestatic 148, 3) := dq_184 (by decide +kernel)
theorem dX9_repair_16 : decode cX9_repair 16 = .ok (.ifCond .ne 5, 3) := dq_154 (by decide +kernel)
theorem dX9_repair_19 : decode cX9_repair 19 = .ok (.iconst (-1), 1) := dq_2 (by decide +kernel)
theorem dX9_repair_20 : decode cX9_repair 20 = .ok (.ireturn, 1) := dq_172 (by decide +kernel)
theorem dX9_repair_21 : decode cX9_repair 21 = .ok (.aload_n 0, 1) := dq_42 (by decide +kernel)
theorem dX9_repair_22 : decode cX9_repair 22 = .ok (.iload_n 1, 1) := dq_27 (by decide +kernel)
theorem dX9_repair_23 : decode cX9_repair 23 = .ok (.invokevirtual 172, 3) := dq_182 (by decide +kernel)
theorem dX9_repair_26 : decode cX9_repair 26 = .ok (.istore_n 3, 1) := dq_62 (by decide +kernel)
theorem dX9_repair_27 : decode cX9_repair 27 = .ok (.iload_n 3, 1) := dq_29 (by decide +kernel)
theorem dX9_repair_28 : decode cX9_repair 28 = .ok (.ifCond .ge 5, 3) := dq_156 (by decide +kernel)
theorem dX9_repair_31 : decode cX9_repair 31 = .ok (.iload_n 3, 1) := dq_29 (by decide +kernel)
theorem dX9_repair_32 : decode cX9_repair 32 = .ok (.ireturn, 1) := dq_172 (by decide +kernel)
theorem dX9_repair_33 : decode cX9_repair 33 = .ok (.aload_n 0, 1) := dq_42 (by decide +kernel)
theorem dX9_repair_34 : decode cX9_repair 34 = .ok (.getfield 33, 3) := dq_180 (by decide +kernel)
theorem dX9_repair_37 : decode cX9_repair 37 = .ok (.sipush 400, 3) := dq_17 (by decide +kernel)
theorem dX9_repair_40 : decode cX9_repair 40 = .ok (.iload_n 1, 1) := dq_27 (by decide +kernel)
theorem dX9_repair_41 : decode cX9_repair 41 = .ok (.imul, 1) := dq_104 (by decide +kernel)
theorem dX9_repair_42 : decode cX9_repair 42 = .ok (.iload_n 2, 1) := dq_28 (by decide +kernel)
theorem dX9_repair_43 : decode cX9_repair 43 = .ok (.iadd, 1) := dq_96 (by decide +kernel)
theorem dX9_repair_44 : decode cX9_repair 44 = .ok (.baload, 1) := dq_51 (by decide +kernel)
theorem dX9_repair_45 : decode cX9_repair 45 = .ok (.ifCond .eq 7, 3) := dq_153 (by decide +kernel)
theorem dX9_repair_48 : decode cX9_repair 48 = .ok (.iconst 0, 1) := dq_3 (by decide +kernel)
theorem dX9_repair_49 : decode cX9_repair 49 = .ok (.goto 4, 3) := dq_167 (by decide +kernel)
theorem dX9_repair_52 : decode cX9_repair 52 = .ok (.iconst 1, 1) := dq_4 (by decide +kernel)
theorem dX9_repair_53 : decode cX9_repair 53 = .ok (.istore 4, 2) := dq_54 (by decide +kernel)
theorem dX9_repair_55 : decode cX9_repair 55 = .ok (.aload_n 0, 1) := dq_42 (by decide +kernel)
theorem dX9_repair_56 : decode cX9_repair 56 = .ok (.getfield 33, 3) := dq_180 (by decide +kernel)
theorem dX9_repair_59 : decode cX9_repair 59 = .ok (.sipush 400, 3) := dq_17 (by decide +kernel)
theorem dX9_repair_62 : decode cX9_repair 62 = .ok (.iload_n 1, 1) := dq_27 (by decide +kernel)
theorem dX9_repair_63 : decode cX9_repair 63 = .ok (.imul, 1) := dq_104 (by decide +kernel)
theorem dX9_repair_64 : decode cX9_repair 64 = .ok (.iload_n 2, 1) := dq_28 (by decide +kernel)
theorem dX9_repair_65 : decode cX9_repair 65 = .ok (.iadd, 1) := dq_96 (by decide +kernel)
theorem dX9_repair_66 : decode cX9_repair 66 = .ok (.iconst 1, 1) := dq_4 (by decide +kernel)
theorem dX9_repair_67 : decode cX9_repair 67 = .ok (.bastore, 1) := dq_84 (by decide +kernel)
theorem dX9_repair_68 : decode cX9_repair 68 = .ok (.iload 4, 2) := dq_21 (by decide +kernel)
theorem dX9_repair_70 : decode cX9_repair 70 = .ok (.ireturn, 1) := dq_172 (by decide +kernel)
theorem dX9_rule_0 : decode cX9_rule 0 = .ok (.iload_n 1, 1) := dq_27 (by decide +kernel)
theorem dX9_rule_1 : decode cX9_rule 1 = .ok (.iconst 0, 1) := dq_3 (by decide +kernel)
theorem dX9_rule_2 : decode cX9_rule 2 = .ok (.iconst 1, 1) := dq_4 (by decide +kernel)
theorem dX9_rule_3 : decode cX9_rule 3 = .ok (.invokestatic 148, 3) := dq_184 (by decide +kernel)
theorem dX9_rule_6 : decode cX9_rule 6 = .ok (.ifCond .ne 5, 3) := dq_154 (by decide +kernel)
theorem dX9_rule_9 : decode cX9_rule 9 = .ok (.iconst (-1), 1) := dq_2 (by decide +kernel)
theorem dX9_rule_10 : decode cX9_rule 10 = .ok (.ireturn, 1) := dq_172 (by decide +kernel)
theorem dX9_rule_11 : decode cX9_rule 11 = .ok (.aload_n 0, 1) := dq_42 (by decide +kernel)
theorem dX9_rule_12 : decode cX9_rule 12 = .ok (.iload_n 1, 1) := dq_27 (by decide +kernel)
theorem dX9_rule_13 : decode cX9_rule 13 = .ok (.invokevirtual 371, 3) := dq_182 (by decide +kernel)
theorem dX9_rule_16 : decode cX9_rule 16 = .ok (.istore_n 2, 1) := dq_61 (by decide +kernel)
theorem dX9_rule_17 : decode cX9_rule 17 = .ok (.aload_n 0, 1) := dq_42 (by decide +kernel)
theorem dX9_rule_18 : decode cX9_rule 18 = .ok (.iconst 0, 1) := dq_3 (by decide +kernel)
theorem dX9_rule_19 : decode cX9_rule 19 = .ok (.putfield 284, 3) := dq_181 (by decide +kernel)
theorem dX9_rule_22 : decode cX9_rule 22 = .ok (.iload_n 2, 1) := dq_28 (by decide +kernel)
theorem dX9_rule_23 : decode cX9_rule 23 = .ok (.ifCond .lt 8, 3) := dq_155 (by decide +kernel)
theorem dX9_rule_26 : decode cX9_rule 26 = .ok (.bipush (-100), 2) := dq_16 (by decide +kernel)
theorem dX9_rule_28 : decode cX9_rule 28 = .ok (.iload_n 2, 1) := dq_28 (by decide +kernel)
theorem dX9_rule_29 : decode cX9_rule 29 = .ok (.isub, 1) := dq_100 (by decide +kernel)
theorem dX9_rule_30 : decode cX9_rule 30 = .ok (.ireturn, 1) := dq_172 (by decide +kernel)
theorem dX9_rule_31 : decode cX9_rule 31 = .ok (.aload_n 0, 1) := dq_42 (by decide +kernel)
theorem dX9_rule_32 : decode cX9_rule 32 = .ok (.getfield 70, 3) := dq_180 (by decide +kernel)
theorem dX9_rule_35 : decode cX9_rule 35 = .ok (.iload_n 1, 1) := dq_27 (by decide +kernel)
theorem dX9_rule_36 : decode cX9_rule 36 = .ok (.iconst 1, 1) := dq_4 (by decide +kernel)
theorem dX9_rule_37 : decode cX9_rule 37 = .ok (.bastore, 1) := dq_84 (by decide +kernel)
theorem dX9_rule_38 : decode cX9_rule 38 = .ok (.aload_n 0, 1) := dq_42 (by decide +kernel)
theorem dX9_rule_39 : decode cX9_rule 39 = .ok (.getfield 73, 3) := dq_180 (by decide +kernel)
theorem dX9_rule_42 : decode cX9_rule 42 = .ok (.iload_n 1, 1) := dq_27 (by decide +kernel)
theorem dX9_rule_43 : decode cX9_rule 43 = .ok (.aload_n 0, 1) := dq_42 (by decide +kernel)
theorem dX9_rule_44 : decode cX9_rule 44 = .ok (.getfield 348, 3) := dq_180 (by decide +kernel)
theorem dX9_rule_47 : decode cX9_rule 47 = .ok (.iastore, 1) := dq_79 (by decide +kernel)
theorem dX9_rule_48 : decode cX9_rule 48 = .ok (.iconst 0, 1) := dq_3 (by decide +kernel)
theorem dX9_rule_49 : decode cX9_rule 49 = .ok (.istore_n 3, 1) := dq_62 (by decide +kernel)
theorem dX9_rule_50 : decode cX9_rule 50 = .ok (.iload_n 3, 1) := dq_29 (by decide +kernel)
theorem dX9_rule_51 : decode cX9_rule 51 = .ok (.aload_n 0, 1) := dq_42 (by decide +kernel)
theorem dX9_rule_52 : decode cX9_rule 52 = .ok (.getfield 348, 3) := dq_180 (by decide +kernel)
theorem dX9_rule_55 : decode cX9_rule 55 = .ok (.if_icmp .ge 53, 3) := dq_162 (by decide +kernel)
theorem dX9_rule_58 : decode cX9_rule 58 = .ok (.aload_n 0, 1) := dq_42 (by decide +kernel)
theorem dX9_rule_59 : decode cX9_rule 59 = .ok (.getfield 76, 3) := dq_180 (by decide +kernel)
theorem dX9_rule_62 : decode cX9_rule 62 = .ok (.sipush 128, 3) := dq_17 (by decide +kernel)
theorem dX9_rule_65 : decode cX9_rule 65 = .ok (.iload_n 1, 1) := dq_27 (by decide +kernel)
theorem dX9_rule_66 : decode cX9_rule 66 = .ok (.imul, 1) := dq_104 (by decide +kernel)
theorem dX9_rule_67 : decode cX9_rule 67 = .ok (.iload_n 3, 1) := dq_29 (by decide +kernel)
theorem dX9_rule_68 : decode cX9_rule 68 = .ok (.iadd, 1) := dq_96 (by decide +kernel)
theorem dX9_rule_69 : decode cX9_rule 69 = .ok (.aload_n 0, 1) := dq_42 (by decide +kernel)
theorem dX9_rule_70 : decode cX9_rule 70 = .ok (.getfield 76, 3) := dq_180 (by decide +kernel)
theorem dX9_rule_73 : decode cX9_rule 73 = .ok (.sipush 256, 3) := dq_17 (by decide +kernel)
theorem dX9_rule_76 : decode cX9_rule 76 = .ok (.iload_n 3, 1) := dq_29 (by decide +kernel)
theorem dX9_rule_77 : decode cX9_rule 77 = .ok (.iadd, 1) := dq_96 (by decide +kernel)
theorem dX9_rule_78 : decode cX9_rule 78 = .ok (.iaload, 1) := dq_46 (by decide +kernel)
theorem dX9_rule_79 : decode cX9_rule 79 = .ok (.iastore, 1) := dq_79 (by decide +kernel)
theorem dX9_rule_80 : decode cX9_rule 80 = .ok (.aload_n 0, 1) := dq_42 (by decide +kernel)
theorem dX9_rule_81 : decode cX9_rule 81 = .ok (.getfield 79, 3) := dq_180 (by decide +kernel)
theorem dX9_rule_84 : decode cX9_rule 84 = .ok (.sipush 128, 3) := dq_17 (by decide +kernel)
theorem dX9_rule_87 : decode cX9_rule 87 = .ok (.iload_n 1, 1) := dq_27 (by decide +kernel)
theorem dX9_rule_88 : decode cX9_rule 88 = .ok (.imul, 1) := dq_104 (by decide +kernel)
theorem dX9_rule_89 : decode cX9_rule 89 = .ok (.iload_n 3, 1) := dq_29 (by decide +kernel)
theorem dX9_rule_90 : decode cX9_rule 90 = .ok (.iadd, 1) := dq_96 (by decide +kernel)
theorem dX9_rule_91 : decode cX9_rule 91 = .ok (.aload_n 0, 1) := dq_42 (by decide +kernel)
theorem dX9_rule_92 : decode cX9_rule 92 = .ok (.getfield 79, 3) := dq_180 (by decide +kernel)
theorem dX9_rule_95 : decode cX9_rule 95 = .ok (.sipush 256, 3) := dq_17 (by decide +kernel)
theorem dX9_rule_98 : decode cX9_rule 98 = .ok (.iload_n 3, 1) := dq_29 (by decide +kernel)
theorem dX9_rule_99 : decode cX9_rule 99 = .ok (.iadd, 1) := dq_96 (by decide +kernel)
theorem dX9_rule_100 : decode cX9_rule 100 = .ok (.iaload, 1) := dq_46 (by decide +kernel)
theorem dX9_rule_101 : decode cX9_rule 101 = .ok (.iastore, 1) := dq_79 (by decide +kernel)
theorem dX9_rule_102 : decode cX9_rule 102 = .ok (.iinc 3 1, 3) := dq_132 (by decide +kernel)
theorem dX9_rule_105 : decode cX9_rule 105 = .ok (.goto (-55), 3) := dq_167 (by decide +kernel)
theorem dX9_rule_108 : decode cX9_rule 108 = .ok (.iconst 1, 1) := dq_4 (by decide +kernel)
theorem dX9_rule_109 : decode cX9_rule 109 = .ok (.ireturn, 1) := dq_172 (by decide +kernel)
theorem dX9_sail_0 : decode cX9_sail 0 = .ok (.iload_n 1, 1) := dq_27 (by decide +kernel)
theorem dX9_sail_1 : decode cX9_sail 1 = .ok (.invokestatic 386, 3) := dq_184 (by decide +kernel)
theorem dX9_sail_4 : decode cX9_sail 4 = .ok (.ifCond .eq 42, 3) := dq_153 (by decide +kernel)
theorem dX9_sail_7 : decode cX9_sail 7 = .ok (.iload_n 2, 1) := dq_28 (by decide +kernel)
theorem dX9_sail_8 : decode cX9_sail 8 = .ok (.invokestatic 152, 3) := dq_184 (by decide +kernel)
theorem dX9_sail_11 : decode cX9_sail 11 = .ok (.ifCond .eq 35, 3) := dq_153 (by decide +kernel)
theorem dX9_sail_14 : decode cX9_sail 14 = .ok (.iload_n 3, 1) := dq_29 (by decide +kernel)
theorem dX9_sail_15 : decode cX9_sail 15 = .ok (.invokestatic 152, 3) := dq_184 (by decide +kernel)
theorem dX9_sail_18 : decode cX9_sail 18 = .ok (.ifCond .eq 28, 3) := dq_153 (by decide +kernel)
theorem dX9_sail_21 : decode cX9_sail 21 = .ok (.iload 4, 2) := dq_21 (by decide +kernel)
theorem dX9_sail_23 : decode cX9_sail 23 = .ok (.invokestatic 152, 3) := dq_184 (by decide +kernel)
theorem dX9_sail_26 : decode cX9_sail 26 = .ok (.ifCond .eq 20, 3) := dq_153 (by decide +kernel)
theorem dX9_sail_29 : decode cX9_sail 29 = .ok (.iload_n 2, 1) := dq_28 (by decide +kernel)
theorem dX9_sail_30 : decode cX9_sail 30 = .ok (.iload_n 3, 1) := dq_29 (by decide +kernel)
theorem dX9_sail_31 : decode cX9_sail 31 = .ok (.if_icmp .eq 15, 3) := dq_159 (by decide +kernel)
theorem dX9_sail_34 : decode cX9_sail 34 = .ok (.iload_n 2, 1) := dq_28 (by decide +kernel)
theorem dX9_sail_35 : decode cX9_sail 35 = .ok (.iload 4, 2) := dq_21 (by decide +kernel)
theorem dX9_sail_37 : decode cX9_sail 37 = .ok (.if_icmp .eq 9, 3) := dq_159 (by decide +kernel)
theorem dX9_sail_40 : decode cX9_sail 40 = .ok (.iload_n 3, 1) := dq_29 (by decide +kernel)
theorem dX9_sail_41 : decode cX9_sail 41 = .ok (.iload 4, 2) := dq_21 (by decide +kernel)
theorem dX9_sail_43 : decode cX9_sail 43 = .ok (.if_icmp .ne 5, 3) := dq_160 (by decide +kernel)
theorem dX9_sail_46 : decode cX9_sail 46 = .ok (.iconst (-1), 1) := dq_2 (by decide +kernel)
theorem dX9_sail_47 : decode cX9_sail 47 = .ok (.ireturn, 1) := dq_172 (by decide +kernel)
theorem dX9_sail_48 : decode cX9_sail 48 = .ok (.aload_n 0, 1) := dq_42 (by decide +kernel)
theorem dX9_sail_49 : decode cX9_sail 49 = .ok (.getfield 124, 3) := dq_180 (by decide +kernel)
theorem dX9_sail_52 : decode cX9_sail 52 = .ok (.iconst 0, 1) := dq_3 (by decide +kernel)
theorem dX9_sail_53 : decode cX9_sail 53 = .ok (.iload_n 2, 1) := dq_28 (by decide +kernel)
theorem dX9_sail_54 : decode cX9_sail 54 = .ok (.iastore, 1) := dq_79 (by decide +kernel)
theorem dX9_sail_55 : decode cX9_sail 55 = .ok (.aload_n 0, 1) := dq_42 (by decide +kernel)
theorem dX9_sail_56 : decode cX9_sail 56 = .ok (.getfield 124, 3) := dq_180 (by decide +kernel)
theorem dX9_sail_59 : decode cX9_sail 59 = .ok (.iconst 1, 1) := dq_4 (by decide +kernel)
theorem dX9_sail_60 : decode cX9_sail 60 = .ok (.iload_n 3, 1) := dq_29 (by decide +kernel)
theorem dX9_sail_61 : decode cX9_sail 61 = .ok (.iastore, 1) := dq_79 (by decide +kernel)
theorem dX9_sail_62 : decode cX9_sail 62 = .ok (.aload_n 0, 1) := dq_42 (by decide +kernel)
theorem dX9_sail_63 : decode cX9_sail 63 = .ok (.getfield 124, 3) := dq_180 (by decide +kernel)
theorem dX9_sail_66 : decode cX9_sail 66 = .ok (.iconst 2, 1) := dq_5 (by decide +kernel)
theorem dX9_sail_67 : decode cX9_sail 67 = .ok (.iload 4, 2) := dq_21 (by decide +kernel)
theorem dX9_sail_69 : decode cX9_sail 69 = .ok (.iastore, 1) := dq_79 (by decide +kernel)
theorem dX9_sail_70 : decode cX9_sail 70 = .ok (.iconst 0, 1) := dq_3 (by decide +kernel)
theorem dX9_sail_71 : decode cX9_sail 71 = .ok (.istore 5, 2) := dq_54 (by decide +kernel)
theorem dX9_sail_73 : decode cX9_sail 73 = .ok (.iload 5, 2) := dq_21 (by decide +kernel)
theorem dX9_sail_75 : decode cX9_sail 75 = .ok (.iconst 3, 1) := dq_6 (by decide +kernel)
theorem dX9_sail_76 : decode cX9_sail 76 = .ok (.if_icmp .ge 35, 3) := dq_162 (by decide +kernel)
theorem dX9_sail_79 : decode cX9_sail 79 = .ok (.aload_n 0, 1) := dq_42 (by decide +kernel)
theorem dX9_sail_80 : decode cX9_sail 80 = .ok (.aload_n 0, 1) := dq_42 (by decide +kernel)
theorem dX9_sail_81 : decode cX9_sail 81 = .ok (.getfield 124, 3) := dq_180 (by decide +kernel)
theorem dX9_sail_84 : decode cX9_sail 84 = .ok (.iload 5, 2) := dq_21 (by decide +kernel)
theorem dX9_sail_86 : decode cX9_sail 86 = .ok (.iaload, 1) := dq_46 (by decide +kernel)
theorem dX9_sail_87 : decode cX9_sail 87 = .ok (.invokevirtual 172, 3) := dq_182 (by decide +kernel)
theorem dX9_sail_90 : decode cX9_sail 90 = .ok (.ifCond .ge 15, 3) := dq_156 (by decide +kernel)
theorem dX9_sail_93 : decode cX9_sail 93 = .ok (.aload_n 0, 1) := dq_42 (by decide +kernel)
theorem dX9_sail_94 : decode cX9_sail 94 = .ok (.aload_n 0, 1) := dq_42 (by decide +kernel)
theorem dX9_sail_95 : decode cX9_sail 95 = .ok (.getfield 124, 3) := dq_180 (by decide +kernel)
theorem dX9_sail_98 : decode cX9_sail 98 = .ok (.iload 5, 2) := dq_21 (by decide +kernel)
theorem dX9_sail_100 : decode cX9_sail 100 = .ok (.iaload, 1) := dq_46 (by decide +kernel)
theorem dX9_sail_101 : decode cX9_sail 101 = .ok (.invokevirtual 172, 3) := dq_182 (by decide +kernel)
theorem dX9_sail_104 : decode cX9_sail 104 = .ok (.ireturn, 1) := dq_172 (by decide +kernel)
theorem dX9_sail_105 : decode cX9_sail 105 = .ok (.iinc 5 1, 3) := dq_132 (by decide +kernel)
theorem dX9_sail_108 : decode cX9_sail 108 = .ok (.goto (-35), 3) := dq_167 (by decide +kernel)
theorem dX9_sail_111 : decode cX9_sail 111 = .ok (.aload_n 0, 1) := dq_42 (by decide +kernel)
theorem dX9_sail_112 : decode cX9_sail 112 = .ok (.getfield 91, 3) := dq_180 (by decide +kernel)
theorem dX9_sail_115 : decode cX9_sail 115 = .ok (.iload_n 1, 1) := dq_27 (by decide +kernel)
theorem dX9_sail_116 : decode cX9_sail 116 = .ok (.iaload, 1) := dq_46 (by decide +kernel)
theorem dX9_sail_117 : decode cX9_sail 117 = .ok (.iconst 1, 1) := dq_4 (by decide +kernel)
theorem dX9_sail_118 : decode cX9_sail 118 = .ok (.if_icmp .ne 6, 3) := dq_160 (by decide +kernel)
theorem dX9_sail_121 : decode cX9_sail 121 = .ok (.bipush (-4), 2) := dq_16 (by decide +kernel)
theorem dX9_sail_123 : decode cX9_sail 123 = .ok (.ireturn, 1) := dq_172 (by decide +kernel)
theorem dX9_sail_124 : decode cX9_sail 124 = .ok (.iconst 0, 1) := dq_3 (by decide +kernel)
theorem dX9_sail_125 : decode cX9_sail 125 = .ok (.istore 5, 2) := dq_54 (by decide +kernel)
theorem dX9_sail_127 : decode cX9_sail 127 = .ok (.iload 5, 2) := dq_21 (by decide +kernel)
theorem dX9_sail_129 : decode cX9_sail 129 = .ok (.iconst 3, 1) := dq_6 (by decide +kernel)
theorem dX9_sail_130 : decode cX9_sail 130 = .ok (.if_icmp .ge 26, 3) := dq_162 (by decide +kernel)
theorem dX9_sail_133 : decode cX9_sail 133 = .ok (.aload_n 0, 1) := dq_42 (by decide +kernel)
theorem dX9_sail_134 : decode cX9_sail 134 = .ok (.aload_n 0, 1) := dq_42 (by decide +kernel)
theorem dX9_sail_135 : decode cX9_sail 135 = .ok (.getfield 124, 3) := dq_180 (by decide +kernel)
theorem dX9_sail_138 : decode cX9_sail 138 = .ok (.iload 5, 2) := dq_21 (by decide +kernel)
theorem dX9_sail_140 : decode cX9_sail 140 = .ok (.iaload, 1) := dq_46 (by decide +kernel)
theorem dX9_sail_141 : decode cX9_sail 141 = .ok (.invokevirtual 389, 3) := dq_182 (by decide +kernel)
theorem dX9_sail_144 : decode cX9_sail 144 = .ok (.ifCond .ne 6, 3) := dq_154 (by decide +kernel)
theorem dX9_sail_147 : decode cX9_sail 147 = .ok (.bipush (-4), 2) := dq_16 (by decide +kernel)
theorem dX9_sail_149 : decode cX9_sail 149 = .ok (.ireturn, 1) := dq_172 (by decide +kernel)
theorem dX9_sail_150 : decode cX9_sail 150 = .ok (.iinc 5 1, 3) := dq_132 (by decide +kernel)
theorem dX9_sail_153 : decode cX9_sail 153 = .ok (.goto (-26), 3) := dq_167 (by decide +kernel)
theorem dX9_sail_156 : decode cX9_sail 156 = .ok (.iconst 0, 1) := dq_3 (by decide +kernel)
theorem dX9_sail_157 : decode cX9_sail 157 = .ok (.istore 5, 2) := dq_54 (by decide +kernel)
theorem dX9_sail_159 : decode cX9_sail 159 = .ok (.iload 5, 2) := dq_21 (by decide +kernel)
theorem dX9_sail_161 : decode cX9_sail 161 = .ok (.iconst 3, 1) := dq_6 (by decide +kernel)
theorem dX9_sail_162 : decode cX9_sail 162 = .ok (.if_icmp .ge 185, 3) := dq_162 (by decide +kernel)
theorem dX9_sail_165 : decode cX9_sail 165 = .ok (.iconst 3, 1) := dq_6 (by decide +kernel)
theorem dX9_sail_166 : decode cX9_sail 166 = .ok (.iload_n 1, 1) := dq_27 (by decide +kernel)
theorem dX9_sail_167 : decode cX9_sail 167 = .ok (.imul, 1) := dq_104 (by decide +kernel)
theorem dX9_sail_168 : decode cX9_sail 168 = .ok (.iload 5, 2) := dq_21 (by decide +kernel)
theorem dX9_sail_170 : decode cX9_sail 170 = .ok (.iadd, 1) := dq_96 (by decide +kernel)
theorem dX9_sail_171 : decode cX9_sail 171 = .ok (.istore 6, 2) := dq_54 (by decide +kernel)
theorem dX9_sail_173 : decode cX9_sail 173 = .ok (.aload_n 0, 1) := dq_42 (by decide +kernel)
theorem dX9_sail_174 : decode cX9_sail 174 = .ok (.aload_n 0, 1) := dq_42 (by decide +kernel)
theorem dX9_sail_175 : decode cX9_sail 175 = .ok (.getfield 124, 3) := dq_180 (by decide +kernel)
theorem dX9_sail_178 : decode cX9_sail 178 = .ok (.iload 5, 2) := dq_21 (by decide +kernel)
theorem dX9_sail_180 : decode cX9_sail 180 = .ok (.iaload, 1) := dq_46 (by decide +kernel)
theorem dX9_sail_181 : decode cX9_sail 181 = .ok (.aload_n 0, 1) := dq_42 (by decide +kernel)
theorem dX9_sail_182 : decode cX9_sail 182 = .ok (.getfield 156, 3) := dq_180 (by decide +kernel)
theorem dX9_sail_185 : decode cX9_sail 185 = .ok (.bipush 30, 2) := dq_16 (by decide +kernel)
theorem dX9_sail_187 : decode cX9_sail 187 = .ok (.if_icmp .ge 7, 3) := dq_162 (by decide +kernel)
theorem dX9_sail_190 : decode cX9_sail 190 = .ok (.iconst 0, 1) := dq_3 (by decide +kernel)
theorem dX9_sail_191 : decode cX9_sail 191 = .ok (.goto 10, 3) := dq_167 (by decide +kernel)
theorem dX9_sail_194 : decode cX9_sail 194 = .ok (.aload_n 0, 1) := dq_42 (by decide +kernel)
theorem dX9_sail_195 : decode cX9_sail 195 = .ok (.getfield 156, 3) := dq_180 (by decide +kernel)
theorem dX9_sail_198 : decode cX9_sail 198 = .ok (.bipush 30, 2) := dq_16 (by decide +kernel)
theorem dX9_sail_200 : decode cX9_sail 200 = .ok (.isub, 1) := dq_100 (by decide +kernel)
theorem dX9_sail_201 : decode cX9_sail 201 = .ok (.aload_n 0, 1) := dq_42 (by decide +kernel)
theorem dX9_sail_202 : decode cX9_sail 202 = .ok (.getfield 156, 3) := dq_180 (by decide +kernel)
theorem dX9_sail_205 : decode cX9_sail 205 = .ok (.invokevirtual 281, 3) := dq_182 (by decide +kernel)
theorem dX9_sail_208 : decode cX9_sail 208 = .ok (.lconst 0, 1) := dq_9 (by decide +kernel)
theorem dX9_sail_209 : decode cX9_sail 209 = .ok (.lstore 7, 2) := dq_55 (by decide +kernel)
theorem dX9_sail_211 : decode cX9_sail 211 = .ok (.iconst 0, 1) := dq_3 (by decide +kernel)
theorem dX9_sail_212 : decode cX9_sail 212 = .ok (.istore 9, 2) := dq_54 (by decide +kernel)
theorem dX9_sail_214 : decode cX9_sail 214 = .ok (.iload 9, 2) := dq_21 (by decide +kernel)
theorem dX9_sail_216 : decode cX9_sail 216 = .ok (.aload_n 0, 1) := dq_42 (by decide +kernel)
theorem dX9_sail_217 : decode cX9_sail 217 = .ok (.getfield 278, 3) := dq_180 (by decide +kernel)
theorem dX9_sail_220 : decode cX9_sail 220 = .ok (.if_icmp .ge 22, 3) := dq_162 (by decide +kernel)
theorem dX9_sail_223 : decode cX9_sail 223 = .ok (.lload 7, 2) := dq_22 (by decide +kernel)
theorem dX9_sail_225 : decode cX9_sail 225 = .ok (.aload_n 0, 1) := dq_42 (by decide +kernel)
theorem dX9_sail_226 : decode cX9_sail 226 = .ok (.getfield 60, 3) := dq_180 (by decide +kernel)
theorem dX9_sail_229 : decode cX9_sail 229 = .ok (.iload 9, 2) := dq_21 (by decide +kernel)
theorem dX9_sail_231 : decode cX9_sail 231 = .ok (.iaload, 1) := dq_46 (by decide +kernel)
theorem dX9_sail_232 : decode cX9_sail 232 = .ok (.i2l, 1) := dq_133 (by decide +kernel)
theorem dX9_sail_233 : decode cX9_sail 233 = .ok (.ladd, 1) := dq_97 (by decide +kernel)
theorem dX9_sail_234 : decode cX9_sail 234 = .ok (.lstore 7, 2) := dq_55 (by decide +kernel)
theorem dX9_sail_236 : decode cX9_sail 236 = .ok (.iinc 9 1, 3) := dq_132 (by decide +kernel)
theorem dX9_sail_239 : decode cX9_sail 239 = .ok (.goto (-25), 3) := dq_167 (by decide +kernel)
theorem dX9_sail_242 : decode cX9_sail 242 = .ok (.aload_n 0, 1) := dq_42 (by decide +kernel)
theorem dX9_sail_243 : decode cX9_sail 243 = .ok (.getfield 100, 3) := dq_180 (by decide +kernel)
theorem dX9_sail_246 : decode cX9_sail 246 = .ok (.iload 6, 2) := dq_21 (by decide +kernel)
theorem dX9_sail_248 : decode cX9_sail 248 = .ok (.aload_n 0, 1) := dq_42 (by decide +kernel)
theorem dX9_sail_249 : decode cX9_sail 249 = .ok (.getfield 124, 3) := dq_180 (by decide +kernel)
theorem dX9_sail_252 : decode cX9_sail 252 = .ok (.iload 5, 2) := dq_21 (by decide +kernel)
theorem dX9_sail_254 : decode cX9_sail 254 = .ok (.iaload, 1) := dq_46 (by decide +kernel)
theorem dX9_sail_255 : decode cX9_sail 255 = .ok (.iastore, 1) := dq_79 (by decide +kernel)
theorem dX9_sail_256 : decode cX9_sail 256 = .ok (.aload_n 0, 1) := dq_42 (by decide +kernel)
theorem dX9_sail_257 : decode cX9_sail 257 = .ok (.getfield 103, 3) := dq_180 (by decide +kernel)
theorem dX9_sail_260 : decode cX9_sail 260 = .ok (.iload 6, 2) := dq_21 (by decide +kernel)
theorem dX9_sail_262 : decode cX9_sail 262 = .ok (.aload_n 0, 1) := dq_42 (by decide +kernel)
theorem dX9_sail_263 : decode cX9_sail 263 = .ok (.aload_n 0, 1) := dq_42 (by decide +kernel)
theorem dX9_sail_264 : decode cX9_sail 264 = .ok (.getfield 124, 3) := dq_180 (by decide +kernel)
theorem dX9_sail_267 : decode cX9_sail 267 = .ok (.iload 5, 2) := dq_21 (by decide +kernel)
theorem dX9_sail_269 : decode cX9_sail 269 = .ok (.iaload, 1) := dq_46 (by decide +kernel)
theorem dX9_sail_270 : decode cX9_sail 270 = .ok (.aload_n 0, 1) := dq_42 (by decide +kernel)
theorem dX9_sail_271 : decode cX9_sail 271 = .ok (.getfield 156, 3) := dq_180 (by decide +kernel)
theorem dX9_sail_274 : decode cX9_sail 274 = .ok (.iconst (-1), 1) := dq_2 (by decide +kernel)
theorem dX9_sail_275 : decode cX9_sail 275 = .ok (.invokevirtual 178, 3) := dq_182 (by decide +kernel)
theorem dX9_sail_278 : decode cX9_sail 278 = .ok (.iastore, 1) := dq_79 (by decide +kernel)
theorem dX9_sail_279 : decode cX9_sail 279 = .ok (.aload_n 0, 1) := dq_42 (by decide +kernel)
theorem dX9_sail_280 : decode cX9_sail 280 = .ok (.getfield 106, 3) := dq_180 (by decide +kernel)
theorem dX9_sail_283 : decode cX9_sail 283 = .ok (.iload 6, 2) := dq_21 (by decide +kernel)
theorem dX9_sail_285 : decode cX9_sail 285 = .ok (.lload 7, 2) := dq_22 (by decide +kernel)
theorem dX9_sail_287 : decode cX9_sail 287 = .ok (.aload_n 0, 1) := dq_42 (by decide +kernel)
theorem dX9_sail_288 : decode cX9_sail 288 = .ok (.getfield 278, 3) := dq_180 (by decide +kernel)
theorem dX9_sail_291 : decode cX9_sail 291 = .ok (.i2l, 1) := dq_133 (by decide +kernel)
theorem dX9_sail_292 : decode cX9_sail 292 = .ok (.invokestatic 267, 3) := dq_184 (by decide +kernel)
theorem dX9_sail_295 : decode cX9_sail 295 = .ok (.l2i, 1) := dq_136 (by decide +kernel)
theorem dX9_sail_296 : decode cX9_sail 296 = .ok (.iastore, 1) := dq_79 (by decide +kernel)
theorem dX9_sail_297 : decode cX9_sail 297 = .ok (.aload_n 0, 1) := dq_42 (by decide +kernel)
theorem dX9_sail_298 : decode cX9_sail 298 = .ok (.getfield 109, 3) := dq_180 (by decide +kernel)
theorem dX9_sail_301 : decode cX9_sail 301 = .ok (.iload 6, 2) := dq_21 (by decide +kernel)
theorem dX9_sail_303 : decode cX9_sail 303 = .ok (.iconst 1, 1) := dq_4 (by decide +kernel)
theorem dX9_sail_304 : decode cX9_sail 304 = .ok (.aload_n 0, 1) := dq_42 (by decide +kernel)
theorem dX9_sail_305 : decode cX9_sail 305 = .ok (.getfield 63, 3) := dq_180 (by decide +kernel)
theorem dX9_sail_308 : decode cX9_sail 308 = .ok (.aload_n 0, 1) := dq_42 (by decide +kernel)
theorem dX9_sail_309 : decode cX9_sail 309 = .ok (.getfield 278, 3) := dq_180 (by decide +kernel)
theorem dX9_sail_312 : decode cX9_sail 312 = .ok (.iconst 1, 1) := dq_4 (by decide +kernel)
theorem dX9_sail_313 : decode cX9_sail 313 = .ok (.isub, 1) := dq_100 (by decide +kernel)
theorem dX9_sail_314 : decode cX9_sail 314 = .ok (.iaload, 1) := dq_46 (by decide +kernel)
theorem dX9_sail_315 : decode cX9_sail 315 = .ok (.aload_n 0, 1) := dq_42 (by decide +kernel)
theorem dX9_sail_316 : decode cX9_sail 316 = .ok (.getfield 63, 3) := dq_180 (by decide +kernel)
theorem dX9_sail_319 : decode cX9_sail 319 = .ok (.iconst 0, 1) := dq_3 (by decide +kernel)
theorem dX9_sail_320 : decode cX9_sail 320 = .ok (.iaload, 1) := dq_46 (by decide +kernel)
theorem dX9_sail_321 : decode cX9_sail 321 = .ok (.isub, 1) := dq_100 (by decide +kernel)
theorem dX9_sail_322 : decode cX9_sail 322 = .ok (.iconst 2, 1) := dq_5 (by decide +kernel)
theorem dX9_sail_323 : decode cX9_sail 323 = .ok (.idiv, 1) := dq_108 (by decide +kernel)
theorem dX9_sail_324 : decode cX9_sail 324 = .ok (.iadd, 1) := dq_96 (by decide +kernel)
theorem dX9_sail_325 : decode cX9_sail 325 = .ok (.iastore, 1) := dq_79 (by decide +kernel)
theorem dX9_sail_326 : decode cX9_sail 326 = .ok (.aload_n 0, 1) := dq_42 (by decide +kernel)
theorem dX9_sail_327 : decode cX9_sail 327 = .ok (.aload_n 0, 1) := dq_42 (by decide +kernel)
theorem dX9_sail_328 : decode cX9_sail 328 = .ok (.getfield 124, 3) := dq_180 (by decide +kernel)
theorem dX9_sail_331 : decode cX9_sail 331 = .ok (.iload 5, 2) := dq_21 (by decide +kernel)
theorem dX9_sail_333 : decode cX9_sail 333 = .ok (.iaload, 1) := dq_46 (by decide +kernel)
theorem dX9_sail_334 : decode cX9_sail 334 = .ok (.bipush 100, 2) := dq_16 (by decide +kernel)
theorem dX9_sail_336 : decode cX9_sail 336 = .ok (.iload_n 1, 1) := dq_27 (by decide +kernel)
theorem dX9_sail_337 : decode cX9_sail 337 = .ok (.iadd, 1) := dq_96 (by decide +kernel)
theorem dX9_sail_338 : decode cX9_sail 338 = .ok (.invokevirtual 392, 3) := dq_182 (by decide +kernel)
theorem dX9_sail_341 : decode cX9_sail 341 = .ok (.iinc 5 1, 3) := dq_132 (by decide +kernel)
theorem dX9_sail_344 : decode cX9_sail 344 = .ok (.goto (-185), 3) := dq_167 (by decide +kernel)
theorem dX9_sail_347 : decode cX9_sail 347 = .ok (.aload_n 0, 1) := dq_42 (by decide +kernel)
theorem dX9_sail_348 : decode cX9_sail 348 = .ok (.getfield 91, 3) := dq_180 (by decide +kernel)
theorem dX9_sail_351 : decode cX9_sail 351 = .ok (.iload_n 1, 1) := dq_27 (by decide +kernel)
theorem dX9_sail_352 : decode cX9_sail 352 = .ok (.iconst 1, 1) := dq_4 (by decide +kernel)
theorem dX9_sail_353 : decode cX9_sail 353 = .ok (.iastore, 1) := dq_79 (by decide +kernel)
theorem dX9_sail_354 : decode cX9_sail 354 = .ok (.aload_n 0, 1) := dq_42 (by decide +kernel)
theorem dX9_sail_355 : decode cX9_sail 355 = .ok (.getfield 94, 3) := dq_180 (by decide +kernel)
theorem dX9_sail_358 : decode cX9_sail 358 = .ok (.iload_n 1, 1) := dq_27 (by decide +kernel)
theorem dX9_sail_359 : decode cX9_sail 359 = .ok (.aload_n 0, 1) := dq_42 (by decide +kernel)
theorem dX9_sail_360 : decode cX9_sail 360 = .ok (.getfield 156, 3) := dq_180 (by decide +kernel)
theorem dX9_sail_363 : decode cX9_sail 363 = .ok (.iastore, 1) := dq_79 (by decide +kernel)
theorem dX9_sail_364 : decode cX9_sail 364 = .ok (.aload_n 0, 1) := dq_42 (by decide +kernel)
theorem dX9_sail_365 : decode cX9_sail 365 = .ok (.getfield 115, 3) := dq_180 (by decide +kernel)
theorem dX9_sail_368 : decode cX9_sail 368 = .ok (.iload_n 1, 1) := dq_27 (by decide +kernel)
theorem dX9_sail_369 : decode cX9_sail 369 = .ok (.iconst 0, 1) := dq_3 (by decide +kernel)
theorem dX9_sail_370 : decode cX9_sail 370 = .ok (.iastore, 1) := dq_79 (by decide +kernel)
theorem dX9_sail_371 : decode cX9_sail 371 = .ok (.iconst 1, 1) := dq_4 (by decide +kernel)
theorem dX9_sail_372 : decode cX9_sail 372 = .ok (.ireturn, 1) := dq_172 (by decide +kernel)
theorem dX9_says_0 : decode cX9_says 0 = .ok (.iconst 0, 1) := dq_3 (by decide +kernel)
theorem dX9_says_1 : decode cX9_says 1 = .ok (.istore_n 2, 1) := dq_61 (by decide +kernel)
theorem dX9_says_2 : decode cX9_says 2 = .ok (.sipush 128, 3) := dq_17 (by decide +kernel)
theorem dX9_says_5 : decode cX9_says 5 = .ok (.iload_n 1, 1) := dq_27 (by decide +kernel)
theorem dX9_says_6 : decode cX9_says 6 = .ok (.imul, 1) := dq_104 (by decide +kernel)
theorem dX9_says_7 : decode cX9_says 7 = .ok (.istore_n 3, 1) := dq_62 (by decide +kernel)
theorem dX9_says_8 : decode cX9_says 8 = .ok (.iload_n 3, 1) := dq_29 (by decide +kernel)
theorem dX9_says_9 : decode cX9_says 9 = .ok (.sipush 128, 3) := dq_17 (by decide +kernel)
theorem dX9_says_12 : decode cX9_says 12 = .ok (.iload_n 1, 1) := dq_27 (by decide +kernel)
theorem dX9_says_13 : decode cX9_says 13 = .ok (.imul, 1) := dq_104 (by decide +kernel)
theorem dX9_says_14 : decode cX9_says 14 = .ok (.aload_n 0, 1) := dq_42 (by decide +kernel)
theorem dX9_says_15 : decode cX9_says 15 = .ok (.getfield 73, 3) := dq_180 (by decide +kernel)
theorem dX9_says_18 : decode cX9_says 18 = .ok (.iload_n 1, 1) := dq_27 (by decide +kernel)
theorem dX9_says_19 : decode cX9_says 19 = .ok (.iaload, 1) := dq_46 (by decide +kernel)
theorem dX9_says_20 : decode cX9_says 20 = .ok (.iadd, 1) := dq_96 (by decide +kernel)
theorem dX9_says_21 : decode cX9_says 21 = .ok (.if_icmp .ge 194, 3) := dq_162 (by decide +kernel)
theorem dX9_says_24 : decode cX9_says 24 = .ok (.aload_n 0, 1) := dq_42 (by decide +kernel)
theorem dX9_says_25 : decode cX9_says 25 = .ok (.getfield 76, 3) := dq_180 (by decide +kernel)
theorem dX9_says_28 : decode cX9_says 28 = .ok (.iload_n 3, 1) := dq_29 (by decide +kernel)
theorem dX9_says_29 : decode cX9_says 29 = .ok (.iaload, 1) := dq_46 (by decide +kernel)
theorem dX9_says_30 : decode cX9_says 30 = .ok (.istore 4, 2) := dq_54 (by decide +kernel)
theorem dX9_says_32 : decode cX9_says 32 = .ok (.iload 4, 2) := dq_21 (by decide +kernel)
theorem dX9_says_34 : decode cX9_says 34 = .ok (.iconst 1, 1) := dq_4 (by decide +kernel)
theorem dX9_says_35 : decode cX9_says 35 = .ok (.if_icmp .eq 10, 3) := dq_159 (by decide +kernel)
theorem dX9_says_38 : decode cX9_says 38 = .ok (.iload 4, 2) := dq_21 (by decide +kernel)
theorem dX9_says_40 : decode cX9_says 40 = .ok (.bipush 100, 2) := dq_16 (by decide +kernel)
theorem dX9_says_42 : decode cX9_says 42 = .ok (.if_icmp .lt 40, 3) := dq_161 (by decide +kernel)
theorem dX9_says_45 : decode cX9_says 45 = .ok (.aload_n 0, 1) := dq_42 (by decide +kernel)
theorem dX9_says_46 : decode cX9_says 46 = .ok (.getfield 85, 3) := dq_180 (by decide +kernel)
theorem dX9_says_49 : decode cX9_says 49 = .ok (.iload_n 2, 1) := dq_28 (by decide +kernel)
theorem dX9_says_50 : decode cX9_says 50 = .ok (.iload 4, 2) := dq_21 (by decide +kernel)
theorem dX9_says_52 : decode cX9_says 52 = .ok (.iconst 1, 1) := dq_4 (by decide +kernel)
theorem dX9_says_53 : decode cX9_says 53 = .ok (.if_icmp .ne 12, 3) := dq_160 (by decide +kernel)
theorem dX9_says_56 : decode cX9_says 56 = .ok (.aload_n 0, 1) := dq_42 (by decide +kernel)
theorem dX9_says_57 : decode cX9_says 57 = .ok (.getfield 79, 3) := dq_180 (by decide +kernel)
theorem dX9_says_60 : decode cX9_says 60 = .ok (.iload_n 3, 1) := dq_29 (by decide +kernel)
theorem dX9_says_61 : decode cX9_says 61 = .ok (.iaload, 1) := dq_46 (by decide +kernel)
theorem dX9_says_62 : decode cX9_says 62 = .ok (.goto 13, 3) := dq_167 (by decide +kernel)
theorem dX9_says_65 : decode cX9_says 65 = .ok (.aload_n 0, 1) := dq_42 (by decide +kernel)
theorem dX9_says_66 : decode cX9_says 66 = .ok (.getfield 88, 3) := dq_180 (by decide +kernel)
theorem dX9_says_69 : decode cX9_says 69 = .ok (.iload 4, 2) := dq_21 (by decide +kernel)
theorem dX9_says_71 : decode cX9_says 71 = .ok (.bipush 100, 2) := dq_16 (by decide +kernel)
theorem dX9_says_73 : decode cX9_says 73 = .ok (.isub, 1) := dq_100 (by decide +kernel)
theorem dX9_says_74 : decode cX9_says 74 = .ok (.iaload, 1) := dq_46 (by decide +kernel)
theorem dX9_says_75 : decode cX9_says 75 = .ok (.iastore, 1) := dq_79 (by decide +kernel)
theorem dX9_says_76 : decode cX9_says 76 = .ok (.iinc 2 1, 3) := dq_132 (by decide +kernel)
theorem dX9_says_79 : decode cX9_says 79 = .ok (.goto 130, 3) := dq_167 (by decide +kernel)
theorem dX9_says_82 : decode cX9_says 82 = .ok (.iload 4, 2) := dq_21 (by decide +kernel)
theorem dX9_says_84 : decode cX9_says 84 = .ok (.bipush 30, 2) := dq_16 (by decide +kernel)
theorem dX9_says_86 : decode cX9_says 86 = .ok (.if_icmp .ne 30, 3) := dq_160 (by decide +kernel)
theorem dX9_says_89 : decode cX9_says 89 = .ok (.aload_n 0, 1) := dq_42 (by decide +kernel)
theorem dX9_says_90 : decode cX9_says 90 = .ok (.getfield 85, 3) := dq_180 (by decide +kernel)
theorem dX9_says_93 : decode cX9_says 93 = .ok (.iload_n 2, 1) := dq_28 (by decide +kernel)
theorem dX9_says_94 : decode cX9_says 94 = .ok (.iconst 1, 1) := dq_4 (by decide +kernel)
theorem dX9_says_95 : decode cX9_says 95 = .ok (.isub, 1) := dq_100 (by decide +kernel)
theorem dX9_says_96 : decode cX9_says 96 = .ok (.aload_n 0, 1) := dq_42 (by decide +kernel)
theorem dX9_says_97 : decode cX9_says 97 = .ok (.getfield 85, 3) := dq_180 (by decide +kernel)
theorem dX9_says_100 : decode cX9_says 100 = .ok (.iload_n 2, 1) := dq_28 (by decide +kernel)
theorem dX9_says_101 : decode cX9_says 101 = .ok (.iconst 1, 1) := dq_4 (by decide +kernel)
theorem dX9_says_102 : decode cX9_says 102 = .ok (.isub, 1) := dq_100 (by decide +kernel)
theorem dX9_says_103 : decode cX9_says 103 = .ok (.iaload, 1) := dq_46 (by decide +kernel)
theorem dX9_says_104 : decode cX9_says 104 = .ok (.ifCond .ne 7, 3) := dq_154 (by decide +kernel)
theorem dX9_says_107 : decode cX9_says 107 = .ok (.iconst 1, 1) := dq_4 (by decide +kernel)
theorem dX9_says_108 : decode cX9_says 108 = .ok (.goto 4, 3) := dq_167 (by decide +kernel)
theorem dX9_says_111 : decode cX9_says 111 = .ok (.iconst 0, 1) := dq_3 (by decide +kernel)
theorem dX9_says_112 : decode cX9_says 112 = .ok (.iastore, 1) := dq_79 (by decide +kernel)
theorem dX9_says_113 : decode cX9_says 113 = .ok (.goto 96, 3) := dq_167 (by decide +kernel)
theorem dX9_says_116 : decode cX9_says 116 = .ok (.iload 4, 2) := dq_21 (by decide +kernel)
theorem dX9_says_118 : decode cX9_says 118 = .ok (.bipush 70, 2) := dq_16 (by decide +kernel)
theorem dX9_says_120 : decode cX9_says 120 = .ok (.if_icmp .eq 10, 3) := dq_159 (by decide +kernel)
theorem dX9_says_123 : decode cX9_says 123 = .ok (.iload 4, 2) := dq_21 (by decide +kernel)
theorem dX9_says_125 : decode cX9_says 125 = .ok (.bipush 71, 2) := dq_16 (by decide +kernel)
theorem dX9_says_127 : decode cX9_says 127 = .ok (.if_icmp .ne 52, 3) := dq_160 (by decide +kernel)
theorem dX9_says_130 : decode cX9_says 130 = .ok (.aload_n 0, 1) := dq_42 (by decide +kernel)
theorem dX9_says_131 : decode cX9_says 131 = .ok (.getfield 85, 3) := dq_180 (by decide +kernel)
theorem dX9_says_134 : decode cX9_says 134 = .ok (.iload_n 2, 1) := dq_28 (by decide +kernel)
theorem dX9_says_135 : decode cX9_says 135 = .ok (.iconst 1, 1) := dq_4 (by decide +kernel)
theorem dX9_says_136 : decode cX9_says 136 = .ok (.isub, 1) := dq_100 (by decide +kernel)
theorem dX9_says_137 : decode cX9_says 137 = .ok (.iload 4, 2) := dq_21 (by decide +kernel)
theorem dX9_says_139 : decode cX9_says 139 = .ok (.bipush 71, 2) := dq_16 (by decide +kernel)
theorem dX9_says_141 : decode cX9_says 141 = .ok (.if_icmp .ne 25, 3) := dq_160 (by decide +kernel)
theorem dX9_says_144 : decode cX9_says 144 = .ok (.aload_n 0, 1) := dq_42 (by decide +kernel)
theorem dX9_says_145 : decode cX9_says 145 = .ok (.getfield 85, 3) := dq_180 (by decide +kernel)
theorem dX9_says_148 : decode cX9_says 148 = .ok (.iload_n 2, 1) := dq_28 (by decide +kernel)
theorem dX9_says_149 : decode cX9_says 149 = .ok (.iconst 1, 1) := dq_4 (by decide +kernel)
theorem dX9_says_150 : decode cX9_says 150 = .ok (.isub, 1) := dq_100 (by decide +kernel)
theorem dX9_says_151 : decode cX9_says 151 = .ok (.iaload, 1) := dq_46 (by decide +kernel)
theorem dX9_says_152 : decode cX9_says 152 = .ok (.ifCond .lt 14, 3) := dq_155 (by decide +kernel)
theorem dX9_says_155 : decode cX9_says 155 = .ok (.aload_n 0, 1) := dq_42 (by decide +kernel)
theorem dX9_says_156 : decode cX9_says 156 = .ok (.getfield 85, 3) := dq_180 (by decide +kernel)
theorem dX9_says_159 : decode cX9_says 159 = .ok (.iload_n 2, 1) := dq_28 (by decide +kernel)
theorem dX9_says_160 : decode cX9_says 160 = .ok (.iconst 1, 1) := dq_4 (by decide +kernel)
theorem dX9_says_161 : decode cX9_says 161 = .ok (.isub, 1) := dq_100 (by decide +kernel)
theorem dX9_says_162 : decode cX9_says 162 = .ok (.iaload, 1) := dq_46 (by decide +kernel)
theorem dX9_says_163 : decode cX9_says 163 = .ok (.goto 12, 3) := dq_167 (by decide +kernel)
theorem dX9_says_166 : decode cX9_says 166 = .ok (.aload_n 0, 1) := dq_42 (by decide +kernel)
theorem dX9_says_167 : decode cX9_says 167 = .ok (.getfield 85, 3) := dq_180 (by decide +kernel)
theorem dX9_says_170 : decode cX9_says 170 = .ok (.iload_n 2, 1) := dq_28 (by decide +kernel)
theorem dX9_says_171 : decode cX9_says 171 = .ok (.iconst 1, 1) := dq_4 (by decide +kernel)
theorem dX9_says_172 : decode cX9_says 172 = .ok (.isub, 1) := dq_100 (by decide +kernel)
theorem dX9_says_173 : decode cX9_says 173 = .ok (.iaload, 1) := dq_46 (by decide +kernel)
theorem dX9_says_174 : decode cX9_says 174 = .ok (.ineg, 1) := dq_116 (by decide +kernel)
theorem dX9_says_175 : decode cX9_says 175 = .ok (.iastore, 1) := dq_79 (by decide +kernel)
theorem dX9_says_176 : decode cX9_says 176 = .ok (.goto 33, 3) := dq_167 (by decide +kernel)
theorem dX9_says_179 : decode cX9_says 179 = .ok (.iinc 2 (-1), 3) := dq_132 (by decide +kernel)
theorem dX9_says_182 : decode cX9_says 182 = .ok (.aload_n 0, 1) := dq_42 (by decide +kernel)
theorem dX9_says_183 : decode cX9_says 183 = .ok (.getfield 85, 3) := dq_180 (by decide +kernel)
theorem dX9_says_186 : decode cX9_says 186 = .ok (.iload_n 2, 1) := dq_28 (by decide +kernel)
theorem dX9_says_187 : decode cX9_says 187 = .ok (.iconst 1, 1) := dq_4 (by decide +kernel)
theorem dX9_says_188 : decode cX9_says 188 = .ok (.isub, 1) := dq_100 (by decide +kernel)
theorem dX9_says_189 : decode cX9_says 189 = .ok (.iload 4, 2) := dq_21 (by decide +kernel)
theorem dX9_says_191 : decode cX9_says 191 = .ok (.aload_n 0, 1) := dq_42 (by decide +kernel)
theorem dX9_says_192 : decode cX9_says 192 = .ok (.getfield 85, 3) := dq_180 (by decide +kernel)
theorem dX9_says_195 : decode cX9_says 195 = .ok (.iload_n 2, 1) := dq_28 (by decide +kernel)
theorem dX9_says_196 : decode cX9_says 196 = .ok (.iconst 1, 1) := dq_4 (by decide +kernel)
theorem dX9_says_197 : decode cX9_says 197 = .ok (.isub, 1) := dq_100 (by decide +kernel)
theorem dX9_says_198 : decode cX9_says 198 = .ok (.iaload, 1) := dq_46 (by decide +kernel)
theorem dX9_says_199 : decode cX9_says 199 = .ok (.aload_n 0, 1) := dq_42 (by decide +kernel)
theorem dX9_says_200 : decode cX9_says 200 = .ok (.getfield 85, 3) := dq_180 (by decide +kernel)
theorem dX9_says_203 : decode cX9_says 203 = .ok (.iload_n 2, 1) := dq_28 (by decide +kernel)
theorem dX9_says_204 : decode cX9_says 204 = .ok (.iaload, 1) := dq_46 (by decide +kernel)
theorem dX9_says_205 : decode cX9_says 205 = .ok (.invokestatic 374, 3) := dq_184 (by decide +kernel)
theorem dX9_says_208 : decode cX9_says 208 = .ok (.iastore, 1) := dq_79 (by decide +kernel)
theorem dX9_says_209 : decode cX9_says 209 = .ok (.iinc 3 1, 3) := dq_132 (by decide +kernel)
theorem dX9_says_212 : decode cX9_says 212 = .ok (.goto (-204), 3) := dq_167 (by decide +kernel)
theorem dX9_says_215 : decode cX9_says 215 = .ok (.aload_n 0, 1) := dq_42 (by decide +kernel)
theorem dX9_says_216 : decode cX9_says 216 = .ok (.getfield 85, 3) := dq_180 (by decide +kernel)
theorem dX9_says_219 : decode cX9_says 219 = .ok (.iconst 0, 1) := dq_3 (by decide +kernel)
theorem dX9_says_220 : decode cX9_says 220 = .ok (.iaload, 1) := dq_46 (by decide +kernel)
theorem dX9_says_221 : decode cX9_says 221 = .ok (.ireturn, 1) := dq_172 (by decide +kernel)
theorem dX9_secondOf_0 : decode cX9_secondOf 0 = .ok (.sipush 10000, 3) := dq_17 (by decide +kernel)
theorem dX9_secondOf_3 : decode cX9_secondOf 3 = .ok (.istore_n 2, 1) := dq_61 (by decide +kernel)
theorem dX9_secondOf_4 : decode cX9_secondOf 4 = .ok (.sipush 10000, 3) := dq_17 (by decide +kernel)
theorem dX9_secondOf_7 : decode cX9_secondOf 7 = .ok (.istore_n 3, 1) := dq_62 (by decide +kernel)
theorem dX9_secondOf_8 : decode cX9_secondOf 8 = .ok (.iconst 0, 1) := dq_3 (by decide +kernel)
theorem dX9_secondOf_9 : decode cX9_secondOf 9 = .ok (.istore 4, 2) := dq_54 (by decide +kernel)
theorem dX9_secondOf_11 : decode cX9_secondOf 11 = .ok (.iload 4, 2) := dq_21 (by decide +kernel)
theorem dX9_secondOf_13 : decode cX9_secondOf 13 = .ok (.aload_n 0, 1) := dq_42 (by decide +kernel)
theorem dX9_secondOf_14 : decode cX9_secondOf 14 = .ok (.getfield 406, 3) := dq_180 (by decide +kernel)
theorem dX9_secondOf_17 : decode cX9_secondOf 17 = .ok (.if_icmp .ge 66, 3) := dq_162 (by decide +kernel)
theorem dX9_secondOf_20 : decode cX9_secondOf 20 = .ok (.aload_n 0, 1) := dq_42 (by decide +kernel)
theorem dX9_secondOf_21 : decode cX9_secondOf 21 = .ok (.getfield 139, 3) := dq_180 (by decide +kernel)
theorem dX9_secondOf_24 : decode cX9_secondOf 24 = .ok (.iload 4, 2) := dq_21 (by decide +kernel)
theorem dX9_secondOf_26 : decode cX9_secondOf 26 = .ok (.iaload, 1) := dq_46 (by decide +kernel)
theorem dX9_secondOf_27 : decode cX9_secondOf 27 = .ok (.iload_n 1, 1) := dq_27 (by decide +kernel)
theorem dX9_secondOf_28 : decode cX9_secondOf 28 = .ok (.if_icmp .eq 6, 3) := dq_159 (by decide +kernel)
theorem dX9_secondOf_31 : decode cX9_secondOf 31 = .ok (.goto 46, 3) := dq_167 (by decide +kernel)
theorem dX9_secondOf_34 : decode cX9_secondOf 34 = .ok (.aload_n 0, 1) := dq_42 (by decide +kernel)
theorem dX9_secondOf_35 : decode cX9_secondOf 35 = .ok (.getfield 133, 3) := dq_180 (by decide +kernel)
theorem dX9_secondOf_38 : decode cX9_secondOf 38 = .ok (.iload 4, 2) := dq_21 (by decide +kernel)
theorem dX9_secondOf_40 : decode cX9_secondOf 40 = .ok (.iaload, 1) := dq_46 (by decide +kernel)
theorem dX9_secondOf_41 : decode cX9_secondOf 41 = .ok (.iload_n 2, 1) := dq_28 (by decide +kernel)
theorem dX9_secondOf_42 : decode cX9_secondOf 42 = .ok (.if_icmp .ge 16, 3) := dq_162 (by decide +kernel)
theorem dX9_secondOf_45 : decode cX9_secondOf 45 = .ok (.iload_n 2, 1) := dq_28 (by decide +kernel)
theorem dX9_secondOf_46 : decode cX9_secondOf 46 = .ok (.istore_n 3, 1) := dq_62 (by decide +kernel)
theorem dX9_secondOf_47 : decode cX9_secondOf 47 = .ok (.aload_n 0, 1) := dq_42 (by decide +kernel)
theorem dX9_secondOf_48 : decode cX9_secondOf 48 = .ok (.getfield 133, 3) := dq_180 (by decide +kernel)
theorem dX9_secondOf_51 : decode cX9_secondOf 51 = .ok (.iload 4, 2) := dq_21 (by decide +kernel)
theorem dX9_secondOf_53 : decode cX9_secondOf 53 = .ok (.iaload, 1) := dq_46 (by decide +kernel)
theorem dX9_secondOf_54 : decode cX9_secondOf 54 = .ok (.istore_n 2, 1) := dq_61 (by decide +kernel)
theorem dX9_secondOf_55 : decode cX9_secondOf 55 = .ok (.goto 22, 3) := dq_167 (by decide +kernel)
theorem dX9_secondOf_58 : decode cX9_secondOf 58 = .ok (.aload_n 0, 1) := dq_42 (by decide +kernel)
theorem dX9_secondOf_59 : decode cX9_secondOf 59 = .ok (.getfield 133, 3) := dq_180 (by decide +kernel)
theorem dX9_secondOf_62 : decode cX9_secondOf 62 = .ok (.iload 4, 2) := dq_21 (by decide +kernel)
theorem dX9_secondOf_64 : decode cX9_secondOf 64 = .ok (.iaload, 1) := dq_46 (by decide +kernel)
theorem dX9_secondOf_65 : decode cX9_secondOf 65 = .ok (.iload_n 3, 1) := dq_29 (by decide +kernel)
theorem dX9_secondOf_66 : decode cX9_secondOf 66 = .ok (.if_icmp .ge 11, 3) := dq_162 (by decide +kernel)
theorem dX9_secondOf_69 : decode cX9_secondOf 69 = .ok (.aload_n 0, 1) := dq_42 (by decide +kernel)
theorem dX9_secondOf_70 : decode cX9_secondOf 70 = .ok (.getfield 133, 3) := dq_180 (by decide +kernel)
theorem dX9_secondOf_73 : decode cX9_secondOf 73 = .ok (.iload 4, 2) := dq_21 (by decide +kernel)
theorem dX9_secondOf_75 : decode cX9_secondOf 75 = .ok (.iaload, 1) := dq_46 (by decide +kernel)
theorem dX9_secondOf_76 : decode cX9_secondOf 76 = .ok (.istore_n 3, 1) := dq_62 (by decide +kernel)
theorem dX9_secondOf_77 : decode cX9_secondOf 77 = .ok (.iinc 4 1, 3) := dq_132 (by decide +kernel)
theorem dX9_secondOf_80 : decode cX9_secondOf 80 = .ok (.goto (-69), 3) := dq_167 (by decide +kernel)
theorem dX9_secondOf_83 : decode cX9_secondOf 83 = .ok (.iload_n 3, 1) := dq_29 (by decide +kernel)
theorem dX9_secondOf_84 : decode cX9_secondOf 84 = .ok (.ireturn, 1) := dq_172 (by decide +kernel)
theorem dX9_sight_0 : decode cX9_sight 0 = .ok (.iload_n 1, 1) := dq_27 (by decide +kernel)
theorem dX9_sight_1 : decode cX9_sight 1 = .ok (.invokestatic 386, 3) := dq_184 (by decide +kernel)
theorem dX9_sight_4 : decode cX9_sight 4 = .ok (.ifCond .eq 38, 3) := dq_153 (by decide +kernel)
theorem dX9_sight_7 : decode cX9_sight 7 = .ok (.iload_n 2, 1) := dq_28 (by decide +kernel)
theorem dX9_sight_8 : decode cX9_sight 8 = .ok (.iconst 0, 1) := dq_3 (by decide +kernel)
theorem dX9_sight_9 : decode cX9_sight 9 = .ok (.aload_n 0, 1) := dq_42 (by decide +kernel)
theorem dX9_sight_10 : decode cX9_sight 10 = .ok (.getfield 156, 3) := dq_180 (by decide +kernel)
theorem dX9_sight_13 : decode cX9_sight 13 = .ok (.invokestatic 148, 3) := dq_184 (by decide +kernel)
theorem dX9_sight_16 : decode cX9_sight 16 = .ok (.ifCond .eq 26, 3) := dq_153 (by decide +kernel)
theorem dX9_sight_19 : decode cX9_sight 19 = .ok (.iload_n 3, 1) := dq_29 (by decide +kernel)
theorem dX9_sight_20 : decode cX9_sight 20 = .ok (.invokestatic 397, 3) := dq_184 (by decide +kernel)
theorem dX9_sight_23 : decode cX9_sight 23 = .ok (.ifCond .eq 19, 3) := dq_153 (by decide +kernel)
theorem dX9_sight_26 : decode cX9_sight 26 = .ok (.iload 4, 2) := dq_21 (by decide +kernel)
theorem dX9_sight_28 : decode cX9_sight 28 = .ok (.invokestatic 397, 3) := dq_184 (by decide +kernel)
theorem dX9_sight_31 : decode cX9_sight 31 = .ok (.ifCond .eq 11, 3) := dq_153 (by decide +kernel)
theorem dX9_sight_34 : decode cX9_sight 34 = .ok (.iload 5, 2) := dq_21 (by decide +kernel)
theorem dX9_sight_36 : decode cX9_sight 36 = .ok (.invokestatic 397, 3) := dq_184 (by decide +kernel)
theorem dX9_sight_39 : decode cX9_sight 39 = .ok (.ifCond .ne 5, 3) := dq_154 (by decide +kernel)
theorem dX9_sight_42 : decode cX9_sight 42 = .ok (.iconst (-1), 1) := dq_2 (by decide +kernel)
theorem dX9_sight_43 : decode cX9_sight 43 = .ok (.ireturn, 1) := dq_172 (by decide +kernel)
theorem dX9_sight_44 : decode cX9_sight 44 = .ok (.aload_n 0, 1) := dq_42 (by decide +kernel)
theorem dX9_sight_45 : decode cX9_sight 45 = .ok (.getfield 91, 3) := dq_180 (by decide +kernel)
theorem dX9_sight_48 : decode cX9_sight 48 = .ok (.iload_n 1, 1) := dq_27 (by decide +kernel)
theorem dX9_sight_49 : decode cX9_sight 49 = .ok (.iaload, 1) := dq_46 (by decide +kernel)
theorem dX9_sight_50 : decode cX9_sight 50 = .ok (.iconst 1, 1) := dq_4 (by decide +kernel)
theorem dX9_sight_51 : decode cX9_sight 51 = .ok (.if_icmp .eq 6, 3) := dq_159 (by decide +kernel)
theorem dX9_sight_54 : decode cX9_sight 54 = .ok (.bipush (-4), 2) := dq_16 (by decide +kernel)
theorem dX9_sight_56 : decode cX9_sight 56 = .ok (.ireturn, 1) := dq_172 (by decide +kernel)
theorem dX9_sight_57 : decode cX9_sight 57 = .ok (.aload_n 0, 1) := dq_42 (by decide +kernel)
theorem dX9_sight_58 : decode cX9_sight 58 = .ok (.getfield 115, 3) := dq_180 (by decide +kernel)
theorem dX9_sight_61 : decode cX9_sight 61 = .ok (.iload_n 1, 1) := dq_27 (by decide +kernel)
theorem dX9_sight_62 : decode cX9_sight 62 = .ok (.iaload, 1) := dq_46 (by decide +kernel)
theorem dX9_sight_63 : decode cX9_sight 63 = .ok (.istore 6, 2) := dq_54 (by decide +kernel)
theorem dX9_sight_65 : decode cX9_sight 65 = .ok (.iload_n 2, 1) := dq_28 (by decide +kernel)
theorem dX9_sight_66 : decode cX9_sight 66 = .ok (.aload_n 0, 1) := dq_42 (by decide +kernel)
theorem dX9_sight_67 : decode cX9_sight 67 = .ok (.getfield 94, 3) := dq_180 (by decide +kernel)
theorem dX9_sight_70 : decode cX9_sight 70 = .ok (.iload_n 1, 1) := dq_27 (by decide +kernel)
theorem dX9_sight_71 : decode cX9_sight 71 = .ok (.iaload, 1) := dq_46 (by decide +kernel)
theorem dX9_sight_72 : decode cX9_sight 72 = .ok (.if_icmp .le 26, 3) := dq_164 (by decide +kernel)
theorem dX9_sight_75 : decode cX9_sight 75 = .ok (.iload 6, 2) := dq_21 (by decide +kernel)
theorem dX9_sight_77 : decode cX9_sight 77 = .ok (.ifCond .le 23, 3) := dq_158 (by decide +kernel)
theorem dX9_sight_80 : decode cX9_sight 80 = .ok (.iload_n 2, 1) := dq_28 (by decide +kernel)
theorem dX9_sight_81 : decode cX9_sight 81 = .ok (.aload_n 0, 1) := dq_42 (by decide +kernel)
theorem dX9_sight_82 : decode cX9_sight 82 = .ok (.getfield 118, 3) := dq_180 (by decide +kernel)
theorem dX9_sight_85 : decode cX9_sight 85 = .ok (.bipush 40, 2) := dq_16 (by decide +kernel)
theorem dX9_sight_87 : decode cX9_sight 87 = .ok (.iload_n 1, 1) := dq_27 (by decide +kernel)
theorem dX9_sight_88 : decode cX9_sight 88 = .ok (.imul, 1) := dq_104 (by decide +kernel)
theorem dX9_sight_89 : decode cX9_sight 89 = .ok (.iload 6, 2) := dq_21 (by decide +kernel)
theorem dX9_sight_91 : decode cX9_sight 91 = .ok (.iadd, 1) := dq_96 (by decide +kernel)
theorem dX9_sight_92 : decode cX9_sight 92 = .ok (.iconst 1, 1) := dq_4 (by decide +kernel)
theorem dX9_sight_93 : decode cX9_sight 93 = .ok (.isub, 1) := dq_100 (by decide +kernel)
theorem dX9_sight_94 : decode cX9_sight 94 = .ok (.iaload, 1) := dq_46 (by decide +kernel)
theorem dX9_sight_95 : decode cX9_sight 95 = .ok (.if_icmp .ge 5, 3) := dq_162 (by decide +kernel)
theorem dX9_sight_98 : decode cX9_sight 98 = .ok (.iconst (-1), 1) := dq_2 (by decide +kernel)
theorem dX9_sight_99 : decode cX9_sight 99 = .ok (.ireturn, 1) := dq_172 (by decide +kernel)
theorem dX9_sight_100 : decode cX9_sight 100 = .ok (.iload 6, 2) := dq_21 (by decide +kernel)
theorem dX9_sight_102 : decode cX9_sight 102 = .ok (.bipush 40, 2) := dq_16 (by decide +kernel)
theorem dX9_sight_104 : decode cX9_sight 104 = .ok (.if_icmp .ne 6, 3) := dq_160 (by decide +kernel)
theorem dX9_sight_107 : decode cX9_sight 107 = .ok (.bipush (-5), 2) := dq_16 (by decide +kernel)
theorem dX9_sight_109 : decode cX9_sight 109 = .ok (.ireturn, 1) := dq_172 (by decide +kernel)
theorem dX9_sight_110 : decode cX9_sight 110 = .ok (.aload_n 0, 1) := dq_42 (by decide +kernel)
theorem dX9_sight_111 : decode cX9_sight 111 = .ok (.getfield 118, 3) := dq_180 (by decide +kernel)
theorem dX9_sight_114 : decode cX9_sight 114 = .ok (.bipush 40, 2) := dq_16 (by decide +kernel)
theorem dX9_sight_116 : decode cX9_sight 116 = .ok (.iload_n 1, 1) := dq_27 (by decide +kernel)
theorem dX9_sight_117 : decode cX9_sight 117 = .ok (.imul, 1) := dq_104 (by decide +kernel)
theorem dX9_sight_118 : decode cX9_sight 118 = .ok (.iload 6, 2) := dq_21 (by decide +kernel)
theorem dX9_sight_120 : decode cX9_sight 120 = .ok (.iadd, 1) := dq_96 (by decide +kernel)
theorem dX9_sight_121 : decode cX9_sight 121 = .ok (.iload_n 2, 1) := dq_28 (by decide +kernel)
theorem dX9_sight_122 : decode cX9_sight 122 = .ok (.iastore, 1) := dq_79 (by decide +kernel)
theorem dX9_sight_123 : decode cX9_sight 123 = .ok (.aload_n 0, 1) := dq_42 (by decide +kernel)
theorem dX9_sight_124 : decode cX9_sight 124 = .ok (.getfield 121, 3) := dq_180 (by decide +kernel)
theorem dX9_sight_127 : decode cX9_sight 127 = .ok (.iconst 3, 1) := dq_6 (by decide +kernel)
theorem dX9_sight_128 : decode cX9_sight 128 = .ok (.bipush 40, 2) := dq_16 (by decide +kernel)
theorem dX9_sight_130 : decode cX9_sight 130 = .ok (.iload_n 1, 1) := dq_27 (by decide +kernel)
theorem dX9_sight_131 : decode cX9_sight 131 = .ok (.imul, 1) := dq_104 (by decide +kernel)
theorem dX9_sight_132 : decode cX9_sight 132 = .ok (.iload 6, 2) := dq_21 (by decide +kernel)
theorem dX9_sight_134 : decode cX9_sight 134 = .ok (.iadd, 1) := dq_96 (by decide +kernel)
theorem dX9_sight_135 : decode cX9_sight 135 = .ok (.imul, 1) := dq_104 (by decide +kernel)
theorem dX9_sight_136 : decode cX9_sight 136 = .ok (.iload_n 3, 1) := dq_29 (by decide +kernel)
theorem dX9_sight_137 : decode cX9_sight 137 = .ok (.iastore, 1) := dq_79 (by decide +kernel)
theorem dX9_sight_138 : decode cX9_sight 138 = .ok (.aload_n 0, 1) := dq_42 (by decide +kernel)
theorem dX9_sight_139 : decode cX9_sight 139 = .ok (.getfield 121, 3) := dq_180 (by decide +kernel)
theorem dX9_sight_142 : decode cX9_sight 142 = .ok (.iconst 3, 1) := dq_6 (by decide +kernel)
theorem dX9_sight_143 : decode cX9_sight 143 = .ok (.bipush 40, 2) := dq_16 (by decide +kernel)
theorem dX9_sight_145 : decode cX9_sight 145 = .ok (.iload_n 1, 1) := dq_27 (by decide +kernel)
theorem dX9_sight_146 : decode cX9_sight 146 = .ok (.imul, 1) := dq_104 (by decide +kernel)
theorem dX9_sight_147 : decode cX9_sight 147 = .ok (.iload 6, 2) := dq_21 (by decide +kernel)
theorem dX9_sight_149 : decode cX9_sight 149 = .ok (.iadd, 1) := dq_96 (by decide +kernel)
theorem dX9_sight_150 : decode cX9_sight 150 = .ok (.imul, 1) := dq_104 (by decide +kernel)
theorem dX9_sight_151 : decode cX9_sight 151 = .ok (.iconst 1, 1) := dq_4 (by decide +kernel)
theorem dX9_sight_152 : decode cX9_sight 152 = .ok (.iadd, 1) := dq_96 (by decide +kernel)
theorem dX9_sight_153 : decode cX9_sight 153 = .ok (.iload 4, 2) := dq_21 (by decide +kernel)
theorem dX9_sight_155 : decode cX9_sight 155 = .ok (.iastore, 1) := dq_79 (by decide +kernel)
theorem dX9_sight_156 : decode cX9_sight 156 = .ok (.aload_n 0, 1) := dq_42 (by decide +kernel)
theorem dX9_sight_157 : decode cX9_sight 157 = .ok (.getfield 121, 3) := dq_180 (by decide +kernel)
theorem dX9_sight_160 : decode cX9_sight 160 = .ok (.iconst 3, 1) := dq_6 (by decide +kernel)
theorem dX9_sight_161 : decode cX9_sight 161 = .ok (.bipush 40, 2) := dq_16 (by decide +kernel)
theorem dX9_sight_163 : decode cX9_sight 163 = .ok (.iload_n 1, 1) := dq_27 (by decide +kernel)
theorem dX9_sight_164 : decode cX9_sight 164 = .ok (.imul, 1) := dq_104 (by decide +kernel)
theorem dX9_sight_165 : decode cX9_sight 165 = .ok (.iload 6, 2) := dq_21 (by decide +kernel)
theorem dX9_sight_167 : decode cX9_sight 167 = .ok (.iadd, 1) := dq_96 (by decide +kernel)
theorem dX9_sight_168 : decode cX9_sight 168 = .ok (.imul, 1) := dq_104 (by decide +kernel)
theorem dX9_sight_169 : decode cX9_sight 169 = .ok (.iconst 2, 1) := dq_5 (by decide +kernel)
theorem dX9_sight_170 : decode cX9_sight 170 = .ok (.iadd, 1) := dq_96 (by decide +kernel)
theorem dX9_sight_171 : decode cX9_sight 171 = .ok (.iload 5, 2) := dq_21 (by decide +kernel)
theorem dX9_sight_173 : decode cX9_sight 173 = .ok (.iastore, 1) := dq_79 (by decide +kernel)
theorem dX9_sight_174 : decode cX9_sight 174 = .ok (.aload_n 0, 1) := dq_42 (by decide +kernel)
theorem dX9_sight_175 : decode cX9_sight 175 = .ok (.getfield 115, 3) := dq_180 (by decide +kernel)
theorem dX9_sight_178 : decode cX9_sight 178 = .ok (.iload_n 1, 1) := dq_27 (by decide +kernel)
theorem dX9_sight_179 : decode cX9_sight 179 = .ok (.dup2, 1) := dq_92 (by decide +kernel)
theorem dX9_sight_180 : decode cX9_sight 180 = .ok (.iaload, 1) := dq_46 (by decide +kernel)
theorem dX9_sight_181 : decode cX9_sight 181 = .ok (.iconst 1, 1) := dq_4 (by decide +kernel)
theorem dX9_sight_182 : decode cX9_sight 182 = .ok (.iadd, 1) := dq_96 (by decide +kernel)
theorem dX9_sight_183 : decode cX9_sight 183 = .ok (.iastore, 1) := dq_79 (by decide +kernel)
theorem dX9_sight_184 : decode cX9_sight 184 = .ok (.iload 6, 2) := dq_21 (by decide +kernel)
theorem dX9_sight_186 : decode cX9_sight 186 = .ok (.ireturn, 1) := dq_172 (by decide +kernel)
theorem dX9_signOf_0 : decode cX9_signOf 0 = .ok (.iload_n 0, 1) := dq_26 (by decide +kernel)
theorem dX9_signOf_1 : decode cX9_signOf 1 = .ok (.tableswitch 133 40 62 #[107, 109, 112, 115, 133, 118, 133, 121, 133, 133, 133, 133, 133, 133, 133, 133, 133, 133, 133, 133, 124, 127, 130], 107) := by decide +kernel
theorem dX9_signOf_108 : decode cX9_signOf 108 = .ok (.iconst 5, 1) := dq_8 (by decide +kernel)
theorem dX9_signOf_109 : decode cX9_signOf 109 = .ok (.ireturn, 1) := dq_172 (by decide +kernel)
theorem dX9_signOf_110 : decode cX9_signOf 110 = .ok (.bipush 6, 2) := dq_16 (by decide +kernel)
theorem dX9_signOf_112 : decode cX9_signOf 112 = .ok (.ireturn, 1) := dq_172 (by decide +kernel)
theorem dX9_signOf_113 : decode cX9_signOf 113 = .ok (.bipush 60, 2) := dq_16 (by decide +kernel)
theorem dX9_signOf_115 : decode cX9_signOf 115 = .ok (.ireturn, 1) := dq_172 (by decide +kernel)
theorem dX9_signOf_116 : decode cX9_signOf 116 = .ok (.bipush 50, 2) := dq_16 (by decide +kernel)
theorem dX9_signOf_118 : decode cX9_signOf 118 = .ok (.ireturn, 1) := dq_172 (by decide +kernel)
theorem dX9_signOf_119 : decode cX9_signOf 119 = .ok (.bipush 51, 2) := dq_16 (by decide +kernel)
theorem dX9_signOf_121 : decode cX9_signOf 121 = .ok (.ireturn, 1) := dq_172 (by decide +kernel)
theorem dX9_signOf_122 : decode cX9_signOf 122 = .ok (.bipush 61, 2) := dq_16 (by decide +kernel)
theorem dX9_signOf_124 : decode cX9_signOf 124 = .ok (.ireturn, 1) := dq_172 (by decide +kernel)
theorem dX9_signOf_125 : decode cX9_signOf 125 = .ok (.bipush 40, 2) := dq_16 (by decide +kernel)
theorem dX9_signOf_127 : decode cX9_signOf 127 = .ok (.ireturn, 1) := dq_172 (by decide +kernel)
theorem dX9_signOf_128 : decode cX9_signOf 128 = .ok (.bipush 41, 2) := dq_16 (by decide +kernel)
theorem dX9_signOf_130 : decode cX9_signOf 130 = .ok (.ireturn, 1) := dq_172 (by decide +kernel)
theorem dX9_signOf_131 : decode cX9_signOf 131 = .ok (.bipush 42, 2) := dq_16 (by decide +kernel)
theorem dX9_signOf_133 : decode cX9_signOf 133 = .ok (.ireturn, 1) := dq_172 (by decide +kernel)
theorem dX9_signOf_134 : decode cX9_signOf 134 = .ok (.iconst 2, 1) := dq_5 (by decide +kernel)
theorem dX9_signOf_135 : decode cX9_signOf 135 = .ok (.ireturn, 1) := dq_172 (by decide +kernel)
theorem dX9_size_0 : decode cX9_size 0 = .ok (.iload_n 0, 1) := dq_26 (by decide +kernel)
theorem dX9_size_1 : decode cX9_size 1 = .ok (.ifCond .ge 8, 3) := dq_156 (by decide +kernel)
theorem dX9_size_4 : decode cX9_size 4 = .ok (.iload_n 0, 1) := dq_26 (by decide +kernel)
theorem dX9_size_5 : decode cX9_size 5 = .ok (.ineg, 1) := dq_116 (by decide +kernel)
theorem dX9_size_6 : decode cX9_size 6 = .ok (.goto 4, 3) := dq_167 (by decide +kernel)
theorem dX9_size_9 : decode cX9_size 9 = .ok (.iload_n 0, 1) := dq_26 (by decide +kernel)
theorem dX9_size_10 : decode cX9_size 10 = .ok (.ireturn, 1) := dq_172 (by decide +kernel)
theorem dX9_state_0 : decode cX9_state 0 = .ok (.iload_n 1, 1) := dq_27 (by decide +kernel)
theorem dX9_state_1 : decode cX9_state 1 = .ok (.invokestatic 386, 3) := dq_184 (by decide +kernel)
theorem dX9_state_4 : decode cX9_state 4 = .ok (.ifCond .eq 12, 3) := dq_153 (by decide +kernel)
theorem dX9_state_7 : decode cX9_state 7 = .ok (.aload_n 0, 1) := dq_42 (by decide +kernel)
theorem dX9_state_8 : decode cX9_state 8 = .ok (.getfield 91, 3) := dq_180 (by decide +kernel)
theorem dX9_state_11 : decode cX9_state 11 = .ok (.iload_n 1, 1) := dq_27 (by decide +kernel)
theorem dX9_state_12 : decode cX9_state 12 = .ok (.iaload, 1) := dq_46 (by decide +kernel)
theorem dX9_state_13 : decode cX9_state 13 = .ok (.goto 4, 3) := dq_167 (by decide +kernel)
theorem dX9_state_16 : decode cX9_state 16 = .ok (.iconst (-1), 1) := dq_2 (by decide +kernel)
theorem dX9_state_17 : decode cX9_state 17 = .ok (.ireturn, 1) := dq_172 (by decide +kernel)
theorem dX9_sumUp_0 : decode cX9_sumUp 0 = .ok (.aload_n 0, 1) := dq_42 (by decide +kernel)
theorem dX9_sumUp_1 : decode cX9_sumUp 1 = .ok (.lconst 0, 1) := dq_9 (by decide +kernel)
theorem dX9_sumUp_2 : decode cX9_sumUp 2 = .ok (.putfield 199, 3) := dq_181 (by decide +kernel)
theorem dX9_sumUp_5 : decode cX9_sumUp 5 = .ok (.aload_n 0, 1) := dq_42 (by decide +kernel)
theorem dX9_sumUp_6 : decode cX9_sumUp 6 = .ok (.lconst 0, 1) := dq_9 (by decide +kernel)
theorem dX9_sumUp_7 : decode cX9_sumUp 7 = .ok (.putfield 203, 3) := dq_181 (by decide +kernel)
theorem dX9_sumUp_10 : decode cX9_sumUp 10 = .ok (.aload_n 0, 1) := dq_42 (by decide +kernel)
theorem dX9_sumUp_11 : decode cX9_sumUp 11 = .ok (.lconst 0, 1) := dq_9 (by decide +kernel)
theorem dX9_sumUp_12 : decode cX9_sumUp 12 = .ok (.putfield 206, 3) := dq_181 (by decide +kernel)
theorem dX9_sumUp_15 : decode cX9_sumUp 15 = .ok (.aload_n 0, 1) := dq_42 (by decide +kernel)
theorem dX9_sumUp_16 : decode cX9_sumUp 16 = .ok (.lconst 0, 1) := dq_9 (by decide +kernel)
theorem dX9_sumUp_17 : decode cX9_sumUp 17 = .ok (.putfield 209, 3) := dq_181 (by decide +kernel)
theorem dX9_sumUp_20 : decode cX9_sumUp 20 = .ok (.aload_n 0, 1) := dq_42 (by decide +kernel)
theorem dX9_sumUp_21 : decode cX9_sumUp 21 = .ok (.lconst 0, 1) := dq_9 (by decide +kernel)
theorem dX9_sumUp_22 : decode cX9_sumUp 22 = .ok (.putfield 212, 3) := dq_181 (by decide +kernel)
theorem dX9_sumUp_25 : decode cX9_sumUp 25 = .ok (.aload_n 0, 1) := dq_42 (by decide +kernel)
theorem dX9_sumUp_26 : decode cX9_sumUp 26 = .ok (.lconst 0, 1) := dq_9 (by decide +kernel)
theorem dX9_sumUp_27 : decode cX9_sumUp 27 = .ok (.putfield 215, 3) := dq_181 (by decide +kernel)
theorem dX9_sumUp_30 : decode cX9_sumUp 30 = .ok (.aload_n 0, 1) := dq_42 (by decide +kernel)
theorem dX9_sumUp_31 : decode cX9_sumUp 31 = .ok (.lconst 0, 1) := dq_9 (by decide +kernel)
theorem dX9_sumUp_32 : decode cX9_sumUp 32 = .ok (.putfield 218, 3) := dq_181 (by decide +kernel)
theorem dX9_sumUp_35 : decode cX9_sumUp 35 = .ok (.aload_n 0, 1) := dq_42 (by decide +kernel)
theorem dX9_sumUp_36 : decode cX9_sumUp 36 = .ok (.lconst 0, 1) := dq_9 (by decide +kernel)
theorem dX9_sumUp_37 : decode cX9_sumUp 37 = .ok (.putfield 221, 3) := dq_181 (by decide +kernel)
theorem dX9_sumUp_40 : decode cX9_sumUp 40 = .ok (.aload_n 0, 1) := dq_42 (by decide +kernel)
theorem dX9_sumUp_41 : decode cX9_sumUp 41 = .ok (.lconst 0, 1) := dq_9 (by decide +kernel)
theorem dX9_sumUp_42 : decode cX9_sumUp 42 = .ok (.putfield 224, 3) := dq_181 (by decide +kernel)
theorem dX9_sumUp_45 : decode cX9_sumUp 45 = .ok (.iload_n 2, 1) := dq_28 (by decide +kernel)
theorem dX9_sumUp_46 : decode cX9_sumUp 46 = .ok (.istore 4, 2) := dq_54 (by decide +kernel)
theorem dX9_sumUp_48 : decode cX9_sumUp 48 = .ok (.iload 4, 2) := dq_21 (by decide +kernel)
theorem dX9_sumUp_50 : decode cX9_sumUp 50 = .ok (.iload_n 3, 1) := dq_29 (by decide +kernel)
theorem dX9_sumUp_51 : decode cX9_sumUp 51 = .ok (.if_icmp .ge 174, 3) := dq_162 (by decide +kernel)
theorem dX9_sumUp_54 : decode cX9_sumUp 54 = .ok (.aload_n 0, 1) := dq_42 (by decide +kernel)
theorem dX9_sumUp_55 : decode cX9_sumUp 55 = .ok (.iload_n 1, 1) := dq_27 (by decide +kernel)
theorem dX9_sumUp_56 : decode cX9_sumUp 56 = .ok (.iload 4, 2) := dq_21 (by decide +kernel)
theorem dX9_sumUp_58 : decode cX9_sumUp 58 = .ok (.iconst (-1), 1) := dq_2 (by decide +kernel)
theorem dX9_sumUp_59 : decode cX9_sumUp 59 = .ok (.invokevirtual 188, 3) := dq_182 (by decide +kernel)
theorem dX9_sumUp_62 : decode cX9_sumUp 62 = .ok (.i2l, 1) := dq_133 (by decide +kernel)
theorem dX9_sumUp_63 : decode cX9_sumUp 63 = .ok (.lstore 5, 2) := dq_55 (by decide +kernel)
theorem dX9_sumUp_65 : decode cX9_sumUp 65 = .ok (.aload_n 0, 1) := dq_42 (by decide +kernel)
theorem dX9_sumUp_66 : decode cX9_sumUp 66 = .ok (.iload_n 1, 1) := dq_27 (by decide +kernel)
theorem dX9_sumUp_67 : decode cX9_sumUp 67 = .ok (.iload 4, 2) := dq_21 (by decide +kernel)
theorem dX9_sumUp_69 : decode cX9_sumUp 69 = .ok (.invokevirtual 227, 3) := dq_182 (by decide +kernel)
theorem dX9_sumUp_72 : decode cX9_sumUp 72 = .ok (.i2l, 1) := dq_133 (by decide +kernel)
theorem dX9_sumUp_73 : decode cX9_sumUp 73 = .ok (.lstore 7, 2) := dq_55 (by decide +kernel)
theorem dX9_sumUp_75 : decode cX9_sumUp 75 = .ok (.lload 5, 2) := dq_22 (by decide +kernel)
theorem dX9_sumUp_77 : decode cX9_sumUp 77 = .ok (.ldc2_w 230, 3) := dq_20 (by decide +kernel)
theorem dX9_sumUp_80 : decode cX9_sumUp 80 = .ok (.lcmp, 1) := dq_148 (by decide +kernel)
theorem dX9_sumUp_81 : decode cX9_sumUp 81 = .ok (.ifCond .eq 138, 3) := dq_153 (by decide +kernel)
theorem dX9_sumUp_84 : decode cX9_sumUp 84 = .ok (.lload 7, 2) := dq_22 (by decide +kernel)
theorem dX9_sumUp_86 : decode cX9_sumUp 86 = .ok (.ldc2_w 232, 3) := dq_20 (by decide +kernel)
theorem dX9_sumUp_89 : decode cX9_sumUp 89 = .ok (.lcmp, 1) := dq_148 (by decide +kernel)
theorem dX9_sumUp_90 : decode cX9_sumUp 90 = .ok (.ifCond .ne 6, 3) := dq_154 (by decide +kernel)
theorem dX9_sumUp_93 : decode cX9_sumUp 93 = .ok (.goto 126, 3) := dq_167 (by decide +kernel)
theorem dX9_sumUp_96 : decode cX9_sumUp 96 = .ok (.aload_n 0, 1) := dq_42 (by decide +kernel)
theorem dX9_sumUp_97 : decode cX9_sumUp 97 = .ok (.iload_n 1, 1) := dq_27 (by decide +kernel)
theorem dX9_sumUp_98 : decode cX9_sumUp 98 = .ok (.iload 4, 2) := dq_21 (by decide +kernel)
theorem dX9_sumUp_100 : decode cX9_sumUp 100 = .ok (.invokevirtual 191, 3) := dq_182 (by decide +kernel)
theorem dX9_sumUp_103 : decode cX9_sumUp 103 = .ok (.i2l, 1) := dq_133 (by decide +kernel)
theorem dX9_sumUp_104 : decode cX9_sumUp 104 = .ok (.lstore 9, 2) := dq_55 (by decide +kernel)
theorem dX9_sumUp_106 : decode cX9_sumUp 106 = .ok (.aload_n 0, 1) := dq_42 (by decide +kernel)
theorem dX9_sumUp_107 : decode cX9_sumUp 107 = .ok (.dup, 1) := dq_89 (by decide +kernel)
theorem dX9_sumUp_108 : decode cX9_sumUp 108 = .ok (.getfield 199, 3) := dq_180 (by decide +kernel)
theorem dX9_sumUp_111 : decode cX9_sumUp 111 = .ok (.lconst 1, 1) := dq_10 (by decide +kernel)
theorem dX9_sumUp_112 : decode cX9_sumUp 112 = .ok (.ladd, 1) := dq_97 (by decide +kernel)
theorem dX9_sumUp_113 : decode cX9_sumUp 113 = .ok (.putfield 199, 3) := dq_181 (by decide +kernel)
theorem dX9_sumUp_116 : decode cX9_sumUp 116 = .ok (.aload_n 0, 1) := dq_42 (by decide +kernel)
theorem dX9_sumUp_117 : decode cX9_sumUp 117 = .ok (.dup, 1) := dq_89 (by decide +kernel)
theorem dX9_sumUp_118 : decode cX9_sumUp 118 = .ok (.getfield 203, 3) := dq_180 (by decide +kernel)
theorem dX9_sumUp_121 : decode cX9_sumUp 121 = .ok (.lload 7, 2) := dq_22 (by decide +kernel)
theorem dX9_sumUp_123 : decode cX9_sumUp 123 = .ok (.ladd, 1) := dq_97 (by decide +kernel)
theorem dX9_sumUp_124 : decode cX9_sumUp 124 = .ok (.putfield 203, 3) := dq_181 (by decide +kernel)
theorem dX9_sumUp_127 : decode cX9_sumUp 127 = .ok (.aload_n 0, 1) := dq_42 (by decide +kernel)
theorem dX9_sumUp_128 : decode cX9_sumUp 128 = .ok (.dup, 1) := dq_89 (by decide +kernel)
theorem dX9_sumUp_129 : decode cX9_sumUp 129 = .ok (.getfield 206, 3) := dq_180 (by decide +kernel)
theorem dX9_sumUp_132 : decode cX9_sumUp 132 = .ok (.lload 9, 2) := dq_22 (by decide +kernel)
theorem dX9_sumUp_134 : decode cX9_sumUp 134 = .ok (.ladd, 1) := dq_97 (by decide +kernel)
theorem dX9_sumUp_135 : decode cX9_sumUp 135 = .ok (.putfield 206, 3) := dq_181 (by decide +kernel)
theorem dX9_sumUp_138 : decode cX9_sumUp 138 = .ok (.aload_n 0, 1) := dq_42 (by decide +kernel)
theorem dX9_sumUp_139 : decode cX9_sumUp 139 = .ok (.dup, 1) := dq_89 (by decide +kernel)
theorem dX9_sumUp_140 : decode cX9_sumUp 140 = .ok (.getfield 209, 3) := dq_180 (by decide +kernel)
theorem dX9_sumUp_143 : decode cX9_sumUp 143 = .ok (.lload 5, 2) := dq_22 (by decide +kernel)
theorem dX9_sumUp_145 : decode cX9_sumUp 145 = .ok (.ladd, 1) := dq_97 (by decide +kernel)
theorem dX9_sumUp_146 : decode cX9_sumUp 146 = .ok (.putfield 209, 3) := dq_181 (by decide +kernel)
theorem dX9_sumUp_149 : decode cX9_sumUp 149 = .ok (.aload_n 0, 1) := dq_42 (by decide +kernel)
theorem dX9_sumUp_150 : decode cX9_sumUp 150 = .ok (.dup, 1) := dq_89 (by decide +kernel)
theorem dX9_sumUp_151 : decode cX9_sumUp 151 = .ok (.getfield 212, 3) := dq_180 (by decide +kernel)
theorem dX9_sumUp_154 : decode cX9_sumUp 154 = .ok (.lload 7, 2) := dq_22 (by decide +kernel)
theorem dX9_sumUp_156 : decode cX9_sumUp 156 = .ok (.lload 7, 2) := dq_22 (by decide +kernel)
theorem dX9_sumUp_158 : decode cX9_sumUp 158 = .ok (.lmul, 1) := dq_105 (by decide +kernel)
theorem dX9_sumUp_159 : decode cX9_sumUp 159 = .ok (.ladd, 1) := dq_97 (by decide +kernel)
theorem dX9_sumUp_160 : decode cX9_sumUp 160 = .ok (.putfield 212, 3) := dq_181 (by decide +kernel)
theorem dX9_sumUp_163 : decode cX9_sumUp 163 = .ok (.aload_n 0, 1) := dq_42 (by decide +kernel)
theorem dX9_sumUp_164 : decode cX9_sumUp 164 = .ok (.dup, 1) := dq_89 (by decide +kernel)
theorem dX9_sumUp_165 : decode cX9_sumUp 165 = .ok (.getfield 215, 3) := dq_180 (by decide +kernel)
theorem dX9_sumUp_168 : decode cX9_sumUp 168 = .ok (.lload 7, 2) := dq_22 (by decide +kernel)
theorem dX9_sumUp_170 : decode cX9_sumUp 170 = .ok (.lload 9, 2) := dq_22 (by decide +kernel)
theorem dX9_sumUp_172 : decode cX9_sumUp 172 = .ok (.lmul, 1) := dq_105 (by decide +kernel)
theorem dX9_sumUp_173 : decode cX9_sumUp 173 = .ok (.ladd, 1) := dq_97 (by decide +kernel)
theorem dX9_sumUp_174 : decode cX9_sumUp 174 = .ok (.putfield 215, 3) := dq_181 (by decide +kernel)
theorem dX9_sumUp_177 : decode cX9_sumUp 177 = .ok (.aload_n 0, 1) := dq_42 (by decide +kernel)
theorem dX9_sumUp_178 : decode cX9_sumUp 178 = .ok (.dup, 1) := dq_89 (by decide +kernel)
theorem dX9_sumUp_179 : decode cX9_sumUp 179 = .ok (.getfield 218, 3) := dq_180 (by decide +kernel)
theorem dX9_sumUp_182 : decode cX9_sumUp 182 = .ok (.lload 9, 2) := dq_22 (by decide +kernel)
theorem dX9_sumUp_184 : decode cX9_sumUp 184 = .ok (.lload 9, 2) := dq_22 (by decide +kernel)
theorem dX9_sumUp_186 : decode cX9_sumUp 186 = .ok (.lmul, 1) := dq_105 (by decide +kernel)
theorem dX9_sumUp_187 : decode cX9_sumUp 187 = .ok (.ladd, 1) := dq_97 (by decide +kernel)
theorem dX9_sumUp_188 : decode cX9_sumUp 188 = .ok (.putfield 218, 3) := dq_181 (by decide +kernel)
theorem dX9_sumUp_191 : decode cX9_sumUp 191 = .ok (.aload_n 0, 1) := dq_42 (by decide +kernel)
theorem dX9_sumUp_192 : decode cX9_sumUp 192 = .ok (.dup, 1) := dq_89 (by decide +kernel)
theorem dX9_sumUp_193 : decode cX9_sumUp 193 = .ok (.getfield 221, 3) := dq_180 (by decide +kernel)
theorem dX9_sumUp_196 : decode cX9_sumUp 196 = .ok (.lload 7, 2) := dq_22 (by decide +kernel)
theorem dX9_sumUp_198 : decode cX9_sumUp 198 = .ok (.lload 5, 2) := dq_22 (by decide +kernel)
theorem dX9_sumUp_200 : decode cX9_sumUp 200 = .ok (.lmul, 1) := dq_105 (by decide +kernel)
theorem dX9_sumUp_201 : decode cX9_sumUp 201 = .ok (.ladd, 1) := dq_97 (by decide +kernel)
theorem dX9_sumUp_202 : decode cX9_sumUp 202 = .ok (.putfield 221, 3) := dq_181 (by decide +kernel)
theorem dX9_sumUp_205 : decode cX9_sumUp 205 = .ok (.aload_n 0, 1) := dq_42 (by decide +kernel)
theorem dX9_sumUp_206 : decode cX9_sumUp 206 = .ok (.dup, 1) := dq_89 (by decide +kernel)
theorem dX9_sumUp_207 : decode cX9_sumUp 207 = .ok (.getfield 224, 3) := dq_180 (by decide +kernel)
theorem dX9_sumUp_210 : decode cX9_sumUp 210 = .ok (.lload 9, 2) := dq_22 (by decide +kernel)
theorem dX9_sumUp_212 : decode cX9_sumUp 212 = .ok (.lload 5, 2) := dq_22 (by decide +kernel)
theorem dX9_sumUp_214 : decode cX9_sumUp 214 = .ok (.lmul, 1) := dq_105 (by decide +kernel)
theorem dX9_sumUp_215 : decode cX9_sumUp 215 = .ok (.ladd, 1) := dq_97 (by decide +kernel)
theorem dX9_sumUp_216 : decode cX9_sumUp 216 = .ok (.putfield 224, 3) := dq_181 (by decide +kernel)
theorem dX9_sumUp_219 : decode cX9_sumUp 219 = .ok (.iinc 4 1, 3) := dq_132 (by decide +kernel)
theorem dX9_sumUp_222 : decode cX9_sumUp 222 = .ok (.goto (-174), 3) := dq_167 (by decide +kernel)
theorem dX9_sumUp_225 : decode cX9_sumUp 225 = .ok (.return_, 1) := dq_177 (by decide +kernel)
theorem dX9_take_0 : decode cX9_take 0 = .ok (.iload_n 1, 1) := dq_27 (by decide +kernel)
theorem dX9_take_1 : decode cX9_take 1 = .ok (.invokestatic 152, 3) := dq_184 (by decide +kernel)
theorem dX9_take_4 : decode cX9_take 4 = .ok (.ifCond .ne 5, 3) := dq_154 (by decide +kernel)
theorem dX9_take_7 : decode cX9_take 7 = .ok (.iconst (-1), 1) := dq_2 (by decide +kernel)
theorem dX9_take_8 : decode cX9_take 8 = .ok (.ireturn, 1) := dq_172 (by decide +kernel)
theorem dX9_take_9 : decode cX9_take 9 = .ok (.aload_n 0, 1) := dq_42 (by decide +kernel)
theorem dX9_take_10 : decode cX9_take 10 = .ok (.getfield 17, 3) := dq_180 (by decide +kernel)
theorem dX9_take_13 : decode cX9_take 13 = .ok (.iload_n 1, 1) := dq_27 (by decide +kernel)
theorem dX9_take_14 : decode cX9_take 14 = .ok (.iaload, 1) := dq_46 (by decide +kernel)
theorem dX9_take_15 : decode cX9_take 15 = .ok (.bipush (-5), 2) := dq_16 (by decide +kernel)
theorem dX9_take_17 : decode cX9_take 17 = .ok (.if_icmp .ne 6, 3) := dq_160 (by decide +kernel)
theorem dX9_take_20 : decode cX9_take 20 = .ok (.bipush (-2), 2) := dq_16 (by decide +kernel)
theorem dX9_take_22 : decode cX9_take 22 = .ok (.ireturn, 1) := dq_172 (by decide +kernel)
theorem dX9_take_23 : decode cX9_take 23 = .ok (.aload_n 0, 1) := dq_42 (by decide +kernel)
theorem dX9_take_24 : decode cX9_take 24 = .ok (.iload_n 1, 1) := dq_27 (by decide +kernel)
theorem dX9_take_25 : decode cX9_take 25 = .ok (.invokevirtual 162, 3) := dq_182 (by decide +kernel)
theorem dX9_take_28 : decode cX9_take 28 = .ok (.ifCond .eq 15, 3) := dq_153 (by decide +kernel)
theorem dX9_take_31 : decode cX9_take 31 = .ok (.aload_n 0, 1) := dq_42 (by decide +kernel)
theorem dX9_take_32 : decode cX9_take 32 = .ok (.iload_n 1, 1) := dq_27 (by decide +kernel)
theorem dX9_take_33 : decode cX9_take 33 = .ok (.invokevirtual 165, 3) := dq_182 (by decide +kernel)
theorem dX9_take_36 : decode cX9_take 36 = .ok (.iconst (-1), 1) := dq_2 (by decide +kernel)
theorem dX9_take_37 : decode cX9_take 37 = .ok (.if_icmp .eq 6, 3) := dq_159 (by decide +kernel)
theorem dX9_take_40 : decode cX9_take 40 = .ok (.bipush (-4), 2) := dq_16 (by decide +kernel)
theorem dX9_take_42 : decode cX9_take 42 = .ok (.ireturn, 1) := dq_172 (by decide +kernel)
theorem dX9_take_43 : decode cX9_take 43 = .ok (.aload_n 0, 1) := dq_42 (by decide +kernel)
theorem dX9_take_44 : decode cX9_take 44 = .ok (.getfield 17, 3) := dq_180 (by decide +kernel)
theorem dX9_take_47 : decode cX9_take 47 = .ok (.iload_n 1, 1) := dq_27 (by decide +kernel)
theorem dX9_take_48 : decode cX9_take 48 = .ok (.bipush (-5), 2) := dq_16 (by decide +kernel)
theorem dX9_take_50 : decode cX9_take 50 = .ok (.iastore, 1) := dq_79 (by decide +kernel)
theorem dX9_take_51 : decode cX9_take 51 = .ok (.iconst 1, 1) := dq_4 (by decide +kernel)
theorem dX9_take_52 : decode cX9_take 52 = .ok (.ireturn, 1) := dq_172 (by decide +kernel)
theorem dX9_terms_0 : decode cX9_terms 0 = .ok (.aload_n 0, 1) := dq_42 (by decide +kernel)
theorem dX9_terms_1 : decode cX9_terms 1 = .ok (.iload_n 1, 1) := dq_27 (by decide +kernel)
theorem dX9_terms_2 : decode cX9_terms 2 = .ok (.iload_n 2, 1) := dq_28 (by decide +kernel)
theorem dX9_terms_3 : decode cX9_terms 3 = .ok (.iload_n 3, 1) := dq_29 (by decide +kernel)
theorem dX9_terms_4 : decode cX9_terms 4 = .ok (.invokevirtual 242, 3) := dq_182 (by decide +kernel)
theorem dX9_terms_7 : decode cX9_terms 7 = .ok (.istore 4, 2) := dq_54 (by decide +kernel)
theorem dX9_terms_9 : decode cX9_terms 9 = .ok (.iload 4, 2) := dq_21 (by decide +kernel)
theorem dX9_terms_11 : decode cX9_terms 11 = .ok (.ifCond .ge 6, 3) := dq_156 (by decide +kernel)
theorem dX9_terms_14 : decode cX9_terms 14 = .ok (.iload 4, 2) := dq_21 (by decide +kernel)
theorem dX9_terms_16 : decode cX9_terms 16 = .ok (.ireturn, 1) := dq_172 (by decide +kernel)
theorem dX9_terms_17 : decode cX9_terms 17 = .ok (.aload_n 0, 1) := dq_42 (by decide +kernel)
theorem dX9_terms_18 : decode cX9_terms 18 = .ok (.iload_n 1, 1) := dq_27 (by decide +kernel)
theorem dX9_terms_19 : decode cX9_terms 19 = .ok (.iload_n 2, 1) := dq_28 (by decide +kernel)
theorem dX9_terms_20 : decode cX9_terms 20 = .ok (.iload_n 3, 1) := dq_29 (by decide +kernel)
theorem dX9_terms_21 : decode cX9_terms 21 = .ok (.invokevirtual 245, 3) := dq_182 (by decide +kernel)
theorem dX9_terms_24 : decode cX9_terms 24 = .ok (.aload_n 0, 1) := dq_42 (by decide +kernel)
theorem dX9_terms_25 : decode cX9_terms 25 = .ok (.getfield 199, 3) := dq_180 (by decide +kernel)
theorem dX9_terms_28 : decode cX9_terms 28 = .ok (.lconst 0, 1) := dq_9 (by decide +kernel)
theorem dX9_terms_29 : decode cX9_terms 29 = .ok (.lcmp, 1) := dq_148 (by decide +kernel)
theorem dX9_terms_30 : decode cX9_terms 30 = .ok (.ifCond .ne 8, 3) := dq_154 (by decide +kernel)
theorem dX9_terms_33 : decode cX9_terms 33 = .ok (.bipush (-4), 2) := dq_16 (by decide +kernel)
theorem dX9_terms_35 : decode cX9_terms 35 = .ok (.goto 7, 3) := dq_167 (by decide +kernel)
theorem dX9_terms_38 : decode cX9_terms 38 = .ok (.aload_n 0, 1) := dq_42 (by decide +kernel)
theorem dX9_terms_39 : decode cX9_terms 39 = .ok (.invokevirtual 249, 3) := dq_182 (by decide +kernel)
theorem dX9_terms_42 : decode cX9_terms 42 = .ok (.ireturn, 1) := dq_172 (by decide +kernel)
theorem dX9_termsNow_0 : decode cX9_termsNow 0 = .ok (.aload_n 0, 1) := dq_42 (by decide +kernel)
theorem dX9_termsNow_1 : decode cX9_termsNow 1 = .ok (.invokevirtual 234, 3) := dq_182 (by decide +kernel)
theorem dX9_termsNow_4 : decode cX9_termsNow 4 = .ok (.lconst 0, 1) := dq_9 (by decide +kernel)
theorem dX9_termsNow_5 : decode cX9_termsNow 5 = .ok (.lcmp, 1) := dq_148 (by decide +kernel)
theorem dX9_termsNow_6 : decode cX9_termsNow 6 = .ok (.ifCond .eq 7, 3) := dq_153 (by decide +kernel)
theorem dX9_termsNow_9 : decode cX9_termsNow 9 = .ok (.iconst 3, 1) := dq_6 (by decide +kernel)
theorem dX9_termsNow_10 : decode cX9_termsNow 10 = .ok (.goto 46, 3) := dq_167 (by decide +kernel)
theorem dX9_termsNow_13 : decode cX9_termsNow 13 = .ok (.aload_n 0, 1) := dq_42 (by decide +kernel)
theorem dX9_termsNow_14 : decode cX9_termsNow 14 = .ok (.aload_n 0, 1) := dq_42 (by decide +kernel)
theorem dX9_termsNow_15 : decode cX9_termsNow 15 = .ok (.getfield 203, 3) := dq_180 (by decide +kernel)
theorem dX9_termsNow_18 : decode cX9_termsNow 18 = .ok (.aload_n 0, 1) := dq_42 (by decide +kernel)
theorem dX9_termsNow_19 : decode cX9_termsNow 19 = .ok (.getfield 212, 3) := dq_180 (by decide +kernel)
theorem dX9_termsNow_22 : decode cX9_termsNow 22 = .ok (.invokevirtual 238, 3) := dq_182 (by decide +kernel)
theorem dX9_termsNow_25 : decode cX9_termsNow 25 = .ok (.lconst 0, 1) := dq_9 (by decide +kernel)
theorem dX9_termsNow_26 : decode cX9_termsNow 26 = .ok (.lcmp, 1) := dq_148 (by decide +kernel)
theorem dX9_termsNow_27 : decode cX9_termsNow 27 = .ok (.ifCond .eq 7, 3) := dq_153 (by decide +kernel)
theorem dX9_termsNow_30 : decode cX9_termsNow 30 = .ok (.iconst 2, 1) := dq_5 (by decide +kernel)
theorem dX9_termsNow_31 : decode cX9_termsNow 31 = .ok (.goto 25, 3) := dq_167 (by decide +kernel)
theorem dX9_termsNow_34 : decode cX9_termsNow 34 = .ok (.aload_n 0, 1) := dq_42 (by decide +kernel)
theorem dX9_termsNow_35 : decode cX9_termsNow 35 = .ok (.aload_n 0, 1) := dq_42 (by decide +kernel)
theorem dX9_termsNow_36 : decode cX9_termsNow 36 = .ok (.getfield 206, 3) := dq_180 (by decide +kernel)
theorem dX9_termsNow_39 : decode cX9_termsNow 39 = .ok (.aload_n 0, 1) := dq_42 (by decide +kernel)
theorem dX9_termsNow_40 : decode cX9_termsNow 40 = .ok (.getfield 218, 3) := dq_180 (by decide +kernel)
theorem dX9_termsNow_43 : decode cX9_termsNow 43 = .ok (.invokevirtual 238, 3) := dq_182 (by decide +kernel)
theorem dX9_termsNow_46 : decode cX9_termsNow 46 = .ok (.lconst 0, 1) := dq_9 (by decide +kernel)
theorem dX9_termsNow_47 : decode cX9_termsNow 47 = .ok (.lcmp, 1) := dq_148 (by decide +kernel)
theorem dX9_termsNow_48 : decode cX9_termsNow 48 = .ok (.ifCond .eq 7, 3) := dq_153 (by decide +kernel)
theorem dX9_termsNow_51 : decode cX9_termsNow 51 = .ok (.iconst 4, 1) := dq_7 (by decide +kernel)
theorem dX9_termsNow_52 : decode cX9_termsNow 52 = .ok (.goto 4, 3) := dq_167 (by decide +kernel)
theorem dX9_termsNow_55 : decode cX9_termsNow 55 = .ok (.iconst 1, 1) := dq_4 (by decide +kernel)
theorem dX9_termsNow_56 : decode cX9_termsNow 56 = .ok (.ireturn, 1) := dq_172 (by decide +kernel)
theorem dX9_three_0 : decode cX9_three 0 = .ok (.aload_n 0, 1) := dq_42 (by decide +kernel)
theorem dX9_three_1 : decode cX9_three 1 = .ok (.getfield 199, 3) := dq_180 (by decide +kernel)
theorem dX9_three_4 : decode cX9_three 4 = .ok (.aload_n 0, 1) := dq_42 (by decide +kernel)
theorem dX9_three_5 : decode cX9_three 5 = .ok (.getfield 212, 3) := dq_180 (by decide +kernel)
theorem dX9_three_8 : decode cX9_three 8 = .ok (.aload_n 0, 1) := dq_42 (by decide +kernel)
theorem dX9_three_9 : decode cX9_three 9 = .ok (.getfield 218, 3) := dq_180 (by decide +kernel)
theorem dX9_three_12 : decode cX9_three 12 = .ok (.lmul, 1) := dq_105 (by decide +kernel)
theorem dX9_three_13 : decode cX9_three 13 = .ok (.aload_n 0, 1) := dq_42 (by decide +kernel)
theorem dX9_three_14 : decode cX9_three 14 = .ok (.getfield 215, 3) := dq_180 (by decide +kernel)
theorem dX9_three_17 : decode cX9_three 17 = .ok (.aload_n 0, 1) := dq_42 (by decide +kernel)
theorem dX9_three_18 : decode cX9_three 18 = .ok (.getfield 215, 3) := dq_180 (by decide +kernel)
theorem dX9_three_21 : decode cX9_three 21 = .ok (.lmul, 1) := dq_105 (by decide +kernel)
theorem dX9_three_22 : decode cX9_three 22 = .ok (.lsub, 1) := dq_101 (by decide +kernel)
theorem dX9_three_23 : decode cX9_three 23 = .ok (.lmul, 1) := dq_105 (by decide +kernel)
theorem dX9_three_24 : decode cX9_three 24 = .ok (.aload_n 0, 1) := dq_42 (by decide +kernel)
theorem dX9_three_25 : decode cX9_three 25 = .ok (.getfield 203, 3) := dq_180 (by decide +kernel)
theorem dX9_three_28 : decode cX9_three 28 = .ok (.aload_n 0, 1) := dq_42 (by decide +kernel)
theorem dX9_three_29 : decode cX9_three 29 = .ok (.getfield 203, 3) := dq_180 (by decide +kernel)
theorem dX9_three_32 : decode cX9_three 32 = .ok (.aload_n 0, 1) := dq_42 (by decide +kernel)
theorem dX9_three_33 : decode cX9_three 33 = .ok (.getfield 218, 3) := dq_180 (by decide +kernel)
theorem dX9_three_36 : decode cX9_three 36 = .ok (.lmul, 1) := dq_105 (by decide +kernel)
theorem dX9_three_37 : decode cX9_three 37 = .ok (.aload_n 0, 1) := dq_42 (by decide +kernel)
theorem dX9_three_38 : decode cX9_three 38 = .ok (.getfield 215, 3) := dq_180 (by decide +kernel)
theorem dX9_three_41 : decode cX9_three 41 = .ok (.aload_n 0, 1) := dq_42 (by decide +kernel)
theorem dX9_three_42 : decode cX9_three 42 = .ok (.getfield 206, 3) := dq_180 (by decide +kernel)
theorem dX9_three_45 : decode cX9_three 45 = .ok (.lmul, 1) := dq_105 (by decide +kernel)
theorem dX9_three_46 : decode cX9_three 46 = .ok (.lsub, 1) := dq_101 (by decide +kernel)
theorem dX9_three_47 : decode cX9_three 47 = .ok (.lmul, 1) := dq_105 (by decide +kernel)
theorem dX9_three_48 : decode cX9_three 48 = .ok (.lsub, 1) := dq_101 (by decide +kernel)
theorem dX9_three_49 : decode cX9_three 49 = .ok (.aload_n 0, 1) := dq_42 (by decide +kernel)
theorem dX9_three_50 : decode cX9_three 50 = .ok (.getfield 206, 3) := dq_180 (by decide +kernel)
theorem dX9_three_53 : decode cX9_three 53 = .ok (.aload_n 0, 1) := dq_42 (by decide +kernel)
theorem dX9_three_54 : decode cX9_three 54 = .ok (.getfield 203, 3) := dq_180 (by decide +kernel)
theorem dX9_three_57 : decode cX9_three 57 = .ok (.aload_n 0, 1) := dq_42 (by decide +kernel)
theorem dX9_three_58 : decode cX9_three 58 = .ok (.getfield 215, 3) := dq_180 (by decide +kernel)
theorem dX9_three_61 : decode cX9_three 61 = .ok (.lmul, 1) := dq_105 (by decide +kernel)
theorem dX9_three_62 : decode cX9_three 62 = .ok (.aload_n 0, 1) := dq_42 (by decide +kernel)
theorem dX9_three_63 : decode cX9_three 63 = .ok (.getfield 212, 3) := dq_180 (by decide +kernel)
theorem dX9_three_66 : decode cX9_three 66 = .ok (.aload_n 0, 1) := dq_42 (by decide +kernel)
theorem dX9_three_67 : decode cX9_three 67 = .ok (.getfield 206, 3) := dq_180 (by decide +kernel)
theorem dX9_three_70 : decode cX9_three 70 = .ok (.lmul, 1) := dq_105 (by decide +kernel)
theorem dX9_three_71 : decode cX9_three 71 = .ok (.lsub, 1) := dq_101 (by decide +kernel)
theorem dX9_three_72 : decode cX9_three 72 = .ok (.lmul, 1) := dq_105 (by decide +kernel)
theorem dX9_three_73 : decode cX9_three 73 = .ok (.ladd, 1) := dq_97 (by decide +kernel)
theorem dX9_three_74 : decode cX9_three 74 = .ok (.lreturn, 1) := dq_173 (by decide +kernel)
theorem dX9_tight_0 : decode cX9_tight 0 = .ok (.iload_n 0, 1) := dq_26 (by decide +kernel)
theorem dX9_tight_1 : decode cX9_tight 1 = .ok (.iconst 5, 1) := dq_8 (by decide +kernel)
theorem dX9_tight_2 : decode cX9_tight 2 = .ok (.if_icmp .ne 7, 3) := dq_160 (by decide +kernel)
theorem dX9_tight_5 : decode cX9_tight 5 = .ok (.iconst 0, 1) := dq_3 (by decide +kernel)
theorem dX9_tight_6 : decode cX9_tight 6 = .ok (.goto 7, 3) := dq_167 (by decide +kernel)
theorem dX9_tight_9 : decode cX9_tight 9 = .ok (.iload_n 0, 1) := dq_26 (by decide +kernel)
theorem dX9_tight_10 : decode cX9_tight 10 = .ok (.bipush 10, 2) := dq_16 (by decide +kernel)
theorem dX9_tight_12 : decode cX9_tight 12 = .ok (.idiv, 1) := dq_108 (by decide +kernel)
theorem dX9_tight_13 : decode cX9_tight 13 = .ok (.ireturn, 1) := dq_172 (by decide +kernel)
theorem dX9_told_0 : decode cX9_told 0 = .ok (.iload_n 1, 1) := dq_27 (by decide +kernel)
theorem dX9_told_1 : decode cX9_told 1 = .ok (.invokestatic 386, 3) := dq_184 (by decide +kernel)
theorem dX9_told_4 : decode cX9_told 4 = .ok (.ifCond .eq 29, 3) := dq_153 (by decide +kernel)
theorem dX9_told_7 : decode cX9_told 7 = .ok (.iload_n 2, 1) := dq_28 (by decide +kernel)
theorem dX9_told_8 : decode cX9_told 8 = .ok (.iconst 0, 1) := dq_3 (by decide +kernel)
theorem dX9_told_9 : decode cX9_told 9 = .ok (.aload_n 0, 1) := dq_42 (by decide +kernel)
theorem dX9_told_10 : decode cX9_told 10 = .ok (.getfield 115, 3) := dq_180 (by decide +kernel)
theorem dX9_told_13 : decode cX9_told 13 = .ok (.iload_n 1, 1) := dq_27 (by decide +kernel)
theorem dX9_told_14 : decode cX9_told 14 = .ok (.iaload, 1) := dq_46 (by decide +kernel)
theorem dX9_told_15 : decode cX9_told 15 = .ok (.iconst 1, 1) := dq_4 (by decide +kernel)
theorem dX9_told_16 : decode cX9_told 16 = .ok (.isub, 1) := dq_100 (by decide +kernel)
theorem dX9_told_17 : decode cX9_told 17 = .ok (.invokestatic 148, 3) := dq_184 (by decide +kernel)
theorem dX9_told_20 : decode cX9_told 20 = .ok (.ifCond .eq 13, 3) := dq_153 (by decide +kernel)
theorem dX9_told_23 : decode cX9_told 23 = .ok (.iload_n 3, 1) := dq_29 (by decide +kernel)
theorem dX9_told_24 : decode cX9_told 24 = .ok (.iconst 0, 1) := dq_3 (by decide +kernel)
theorem dX9_told_25 : decode cX9_told 25 = .ok (.bipush 9, 2) := dq_16 (by decide +kernel)
theorem dX9_told_27 : decode cX9_told 27 = .ok (.invokestatic 148, 3) := dq_184 (by decide +kernel)
theorem dX9_told_30 : decode cX9_told 30 = .ok (.ifCond .ne 6, 3) := dq_154 (by decide +kernel)
theorem dX9_told_33 : decode cX9_told 33 = .ok (.ldc 169, 2) := dq_18 (by decide +kernel)
theorem dX9_told_35 : decode cX9_told 35 = .ok (.ireturn, 1) := dq_172 (by decide +kernel)
theorem dX9_told_36 : decode cX9_told 36 = .ok (.aload_n 0, 1) := dq_42 (by decide +kernel)
theorem dX9_told_37 : decode cX9_told 37 = .ok (.iload_n 1, 1) := dq_27 (by decide +kernel)
theorem dX9_told_38 : decode cX9_told 38 = .ok (.iload_n 2, 1) := dq_28 (by decide +kernel)
theorem dX9_told_39 : decode cX9_told 39 = .ok (.invokevirtual 402, 3) := dq_182 (by decide +kernel)
theorem dX9_told_42 : decode cX9_told 42 = .ok (.istore 4, 2) := dq_54 (by decide +kernel)
theorem dX9_told_44 : decode cX9_told 44 = .ok (.iload_n 3, 1) := dq_29 (by decide +kernel)
theorem dX9_told_45 : decode cX9_told 45 = .ok (.ifCond .ne 15, 3) := dq_154 (by decide +kernel)
theorem dX9_told_48 : decode cX9_told 48 = .ok (.aload_n 0, 1) := dq_42 (by decide +kernel)
theorem dX9_told_49 : decode cX9_told 49 = .ok (.getfield 118, 3) := dq_180 (by decide +kernel)
theorem dX9_told_52 : decode cX9_told 52 = .ok (.bipush 40, 2) := dq_16 (by decide +kernel)
theorem dX9_told_54 : decode cX9_told 54 = .ok (.iload_n 1, 1) := dq_27 (by decide +kernel)
theorem dX9_told_55 : decode cX9_told 55 = .ok (.imul, 1) := dq_104 (by decide +kernel)
theorem dX9_told_56 : decode cX9_told 56 = .ok (.iload_n 2, 1) := dq_28 (by decide +kernel)
theorem dX9_told_57 : decode cX9_told 57 = .ok (.iadd, 1) := dq_96 (by decide +kernel)
theorem dX9_told_58 : decode cX9_told 58 = .ok (.iaload, 1) := dq_46 (by decide +kernel)
theorem dX9_told_59 : decode cX9_told 59 = .ok (.ireturn, 1) := dq_172 (by decide +kernel)
theorem dX9_told_60 : decode cX9_told 60 = .ok (.iload_n 3, 1) := dq_29 (by decide +kernel)
theorem dX9_told_61 : decode cX9_told 61 = .ok (.iconst 1, 1) := dq_4 (by decide +kernel)
theorem dX9_told_62 : decode cX9_told 62 = .ok (.if_icmp .ne 6, 3) := dq_160 (by decide +kernel)
theorem dX9_told_65 : decode cX9_told 65 = .ok (.iload 4, 2) := dq_21 (by decide +kernel)
theorem dX9_told_67 : decode cX9_told 67 = .ok (.ireturn, 1) := dq_172 (by decide +kernel)
theorem dX9_told_68 : decode cX9_told 68 = .ok (.iload_n 3, 1) := dq_29 (by decide +kernel)
theorem dX9_told_69 : decode cX9_told 69 = .ok (.iconst 4, 1) := dq_7 (by decide +kernel)
theorem dX9_told_70 : decode cX9_told 70 = .ok (.if_icmp .lt 30, 3) := dq_161 (by decide +kernel)
theorem dX9_told_73 : decode cX9_told 73 = .ok (.iload_n 3, 1) := dq_29 (by decide +kernel)
theorem dX9_told_74 : decode cX9_told 74 = .ok (.bipush 7, 2) := dq_16 (by decide +kernel)
theorem dX9_told_76 : decode cX9_told 76 = .ok (.if_icmp .ge 14, 3) := dq_162 (by decide +kernel)
theorem dX9_told_79 : decode cX9_told 79 = .ok (.aload_n 0, 1) := dq_42 (by decide +kernel)
theorem dX9_told_80 : decode cX9_told 80 = .ok (.getfield 127, 3) := dq_180 (by decide +kernel)
theorem dX9_told_83 : decode cX9_told 83 = .ok (.iload_n 3, 1) := dq_29 (by decide +kernel)
theorem dX9_told_84 : decode cX9_told 84 = .ok (.iconst 4, 1) := dq_7 (by decide +kernel)
theorem dX9_told_85 : decode cX9_told 85 = .ok (.isub, 1) := dq_100 (by decide +kernel)
theorem dX9_told_86 : decode cX9_told 86 = .ok (.iaload, 1) := dq_46 (by decide +kernel)
theorem dX9_told_87 : decode cX9_told 87 = .ok (.goto 12, 3) := dq_167 (by decide +kernel)
theorem dX9_told_90 : decode cX9_told 90 = .ok (.aload_n 0, 1) := dq_42 (by decide +kernel)
theorem dX9_told_91 : decode cX9_told 91 = .ok (.getfield 130, 3) := dq_180 (by decide +kernel)
theorem dX9_told_94 : decode cX9_told 94 = .ok (.iload_n 3, 1) := dq_29 (by decide +kernel)
theorem dX9_told_95 : decode cX9_told 95 = .ok (.bipush 7, 2) := dq_16 (by decide +kernel)
theorem dX9_told_97 : decode cX9_told 97 = .ok (.isub, 1) := dq_100 (by decide +kernel)
theorem dX9_told_98 : decode cX9_told 98 = .ok (.iaload, 1) := dq_46 (by decide +kernel)
theorem dX9_told_99 : decode cX9_told 99 = .ok (.ireturn, 1) := dq_172 (by decide +kernel)
theorem dX9_told_100 : decode cX9_told 100 = .ok (.ldc 169, 2) := dq_18 (by decide +kernel)
theorem dX9_told_102 : decode cX9_told 102 = .ok (.istore 5, 2) := dq_54 (by decide +kernel)
theorem dX9_told_104 : decode cX9_told 104 = .ok (.ldc_w 405, 3) := dq_19 (by decide +kernel)
theorem dX9_told_107 : decode cX9_told 107 = .ok (.istore 6, 2) := dq_54 (by decide +kernel)
theorem dX9_told_109 : decode cX9_told 109 = .ok (.iconst 0, 1) := dq_3 (by decide +kernel)
theorem dX9_told_110 : decode cX9_told 110 = .ok (.istore 7, 2) := dq_54 (by decide +kernel)
theorem dX9_told_112 : decode cX9_told 112 = .ok (.iload 7, 2) := dq_21 (by decide +kernel)
theorem dX9_told_114 : decode cX9_told 114 = .ok (.iconst 3, 1) := dq_6 (by decide +kernel)
theorem dX9_told_115 : decode cX9_told 115 = .ok (.if_icmp .ge 103, 3) := dq_162 (by decide +kernel)
theorem dX9_told_118 : decode cX9_told 118 = .ok (.iload 7, 2) := dq_21 (by decide +kernel)
theorem dX9_told_120 : decode cX9_told 120 = .ok (.iload 4, 2) := dq_21 (by decide +kernel)
theorem dX9_told_122 : decode cX9_told 122 = .ok (.if_icmp .ne 6, 3) := dq_160 (by decide +kernel)
theorem dX9_told_125 : decode cX9_told 125 = .ok (.goto 87, 3) := dq_167 (by decide +kernel)
theorem dX9_told_128 : decode cX9_told 128 = .ok (.aload_n 0, 1) := dq_42 (by decide +kernel)
theorem dX9_told_129 : decode cX9_told 129 = .ok (.getfield 127, 3) := dq_180 (by decide +kernel)
theorem dX9_told_132 : decode cX9_told 132 = .ok (.iload 7, 2) := dq_21 (by decide +kernel)
theorem dX9_told_134 : decode cX9_told 134 = .ok (.iaload, 1) := dq_46 (by decide +kernel)
theorem dX9_told_135 : decode cX9_told 135 = .ok (.aload_n 0, 1) := dq_42 (by decide +kernel)
theorem dX9_told_136 : decode cX9_told 136 = .ok (.getfield 130, 3) := dq_180 (by decide +kernel)
theorem dX9_told_139 : decode cX9_told 139 = .ok (.iload 7, 2) := dq_21 (by decide +kernel)
theorem dX9_told_141 : decode cX9_told 141 = .ok (.iaload, 1) := dq_46 (by decide +kernel)
theorem dX9_told_142 : decode cX9_told 142 = .ok (.isub, 1) := dq_100 (by decide +kernel)
theorem dX9_told_143 : decode cX9_told 143 = .ok (.iload 5, 2) := dq_21 (by decide +kernel)
theorem dX9_told_145 : decode cX9_told 145 = .ok (.if_icmp .le 21, 3) := dq_164 (by decide +kernel)
theorem dX9_told_148 : decode cX9_told 148 = .ok (.aload_n 0, 1) := dq_42 (by decide +kernel)
theorem dX9_told_149 : decode cX9_told 149 = .ok (.getfield 127, 3) := dq_180 (by decide +kernel)
theorem dX9_told_152 : decode cX9_told 152 = .ok (.iload 7, 2) := dq_21 (by decide +kernel)
theorem dX9_told_154 : decode cX9_told 154 = .ok (.iaload, 1) := dq_46 (by decide +kernel)
theorem dX9_told_155 : decode cX9_told 155 = .ok (.aload_n 0, 1) := dq_42 (by decide +kernel)
theorem dX9_told_156 : decode cX9_told 156 = .ok (.getfield 130, 3) := dq_180 (by decide +kernel)
theorem dX9_told_159 : decode cX9_told 159 = .ok (.iload 7, 2) := dq_21 (by decide +kernel)
theorem dX9_told_161 : decode cX9_told 161 = .ok (.iaload, 1) := dq_46 (by decide +kernel)
theorem dX9_told_162 : decode cX9_told 162 = .ok (.isub, 1) := dq_100 (by decide +kernel)
theorem dX9_told_163 : decode cX9_told 163 = .ok (.goto 5, 3) := dq_167 (by decide +kernel)
theorem dX9_told_166 : decode cX9_told 166 = .ok (.iload 5, 2) := dq_21 (by decide +kernel)
theorem dX9_told_168 : decode cX9_told 168 = .ok (.istore 5, 2) := dq_54 (by decide +kernel)
theorem dX9_told_170 : decode cX9_told 170 = .ok (.aload_n 0, 1) := dq_42 (by decide +kernel)
theorem dX9_told_171 : decode cX9_told 171 = .ok (.getfield 127, 3) := dq_180 (by decide +kernel)
theorem dX9_told_174 : decode cX9_told 174 = .ok (.iload 7, 2) := dq_21 (by decide +kernel)
theorem dX9_told_176 : decode cX9_told 176 = .ok (.iaload, 1) := dq_46 (by decide +kernel)
theorem dX9_told_177 : decode cX9_told 177 = .ok (.aload_n 0, 1) := dq_42 (by decide +kernel)
theorem dX9_told_178 : decode cX9_told 178 = .ok (.getfield 130, 3) := dq_180 (by decide +kernel)
theorem dX9_told_181 : decode cX9_told 181 = .ok (.iload 7, 2) := dq_21 (by decide +kernel)
theorem dX9_told_183 : decode cX9_told 183 = .ok (.iaload, 1) := dq_46 (by decide +kernel)
theorem dX9_told_184 : decode cX9_told 184 = .ok (.iadd, 1) := dq_96 (by decide +kernel)
theorem dX9_told_185 : decode cX9_told 185 = .ok (.iload 6, 2) := dq_21 (by decide +kernel)
theorem dX9_told_187 : decode cX9_told 187 = .ok (.if_icmp .ge 21, 3) := dq_162 (by decide +kernel)
theorem dX9_told_190 : decode cX9_told 190 = .ok (.aload_n 0, 1) := dq_42 (by decide +kernel)
theorem dX9_told_191 : decode cX9_told 191 = .ok (.getfield 127, 3) := dq_180 (by decide +kernel)
theorem dX9_told_194 : decode cX9_told 194 = .ok (.iload 7, 2) := dq_21 (by decide +kernel)
theorem dX9_told_196 : decode cX9_told 196 = .ok (.iaload, 1) := dq_46 (by decide +kernel)
theorem dX9_told_197 : decode cX9_told 197 = .ok (.aload_n 0, 1) := dq_42 (by decide +kernel)
theorem dX9_told_198 : decode cX9_told 198 = .ok (.getfield 130, 3) := dq_180 (by decide +kernel)
theorem dX9_told_201 : decode cX9_told 201 = .ok (.iload 7, 2) := dq_21 (by decide +kernel)
theorem dX9_told_203 : decode cX9_told 203 = .ok (.iaload, 1) := dq_46 (by decide +kernel)
theorem dX9_told_204 : decode cX9_told 204 = .ok (.iadd, 1) := dq_96 (by decide +kernel)
theorem dX9_told_205 : decode cX9_told 205 = .ok (.goto 5, 3) := dq_167 (by decide +kernel)
theorem dX9_told_208 : decode cX9_told 208 = .ok (.iload 6, 2) := dq_21 (by decide +kernel)
theorem dX9_told_210 : decode cX9_told 210 = .ok (.istore 6, 2) := dq_54 (by decide +kernel)
theorem dX9_told_212 : decode cX9_told 212 = .ok (.iinc 7 1, 3) := dq_132 (by decide +kernel)
theorem dX9_told_215 : decode cX9_told 215 = .ok (.goto (-103), 3) := dq_167 (by decide +kernel)
theorem dX9_told_218 : decode cX9_told 218 = .ok (.iload 6, 2) := dq_21 (by decide +kernel)
theorem dX9_told_220 : decode cX9_told 220 = .ok (.iload 5, 2) := dq_21 (by decide +kernel)
theorem dX9_told_222 : decode cX9_told 222 = .ok (.if_icmp .ge 8, 3) := dq_162 (by decide +kernel)
theorem dX9_told_225 : decode cX9_told 225 = .ok (.ldc 169, 2) := dq_18 (by decide +kernel)
theorem dX9_told_227 : decode cX9_told 227 = .ok (.goto 15, 3) := dq_167 (by decide +kernel)
theorem dX9_told_230 : decode cX9_told 230 = .ok (.iload_n 3, 1) := dq_29 (by decide +kernel)
theorem dX9_told_231 : decode cX9_told 231 = .ok (.iconst 2, 1) := dq_5 (by decide +kernel)
theorem dX9_told_232 : decode cX9_told 232 = .ok (.if_icmp .ne 8, 3) := dq_160 (by decide +kernel)
theorem dX9_told_235 : decode cX9_told 235 = .ok (.iload 5, 2) := dq_21 (by decide +kernel)
theorem dX9_told_237 : decode cX9_told 237 = .ok (.goto 5, 3) := dq_167 (by decide +kernel)
theorem dX9_told_240 : decode cX9_told 240 = .ok (.iload 6, 2) := dq_21 (by decide +kernel)
theorem dX9_told_242 : decode cX9_told 242 = .ok (.ireturn, 1) := dq_172 (by decide +kernel)
theorem dX9_trial_0 : decode cX9_trial 0 = .ok (.aload_n 0, 1) := dq_42 (by decide +kernel)
theorem dX9_trial_1 : decode cX9_trial 1 = .ok (.iload_n 1, 1) := dq_27 (by decide +kernel)
theorem dX9_trial_2 : decode cX9_trial 2 = .ok (.iload_n 2, 1) := dq_28 (by decide +kernel)
theorem dX9_trial_3 : decode cX9_trial 3 = .ok (.iload_n 3, 1) := dq_29 (by decide +kernel)
theorem dX9_trial_4 : decode cX9_trial 4 = .ok (.invokevirtual 242, 3) := dq_182 (by decide +kernel)
theorem dX9_trial_7 : decode cX9_trial 7 = .ok (.ifCond .ge 8, 3) := dq_156 (by decide +kernel)
theorem dX9_trial_10 : decode cX9_trial 10 = .ok (.ldc 169, 2) := dq_18 (by decide +kernel)
theorem dX9_trial_12 : decode cX9_trial 12 = .ok (.goto 10, 3) := dq_167 (by decide +kernel)
theorem dX9_trial_15 : decode cX9_trial 15 = .ok (.aload_n 0, 1) := dq_42 (by decide +kernel)
theorem dX9_trial_16 : decode cX9_trial 16 = .ok (.iload_n 1, 1) := dq_27 (by decide +kernel)
theorem dX9_trial_17 : decode cX9_trial 17 = .ok (.iload_n 2, 1) := dq_28 (by decide +kernel)
theorem dX9_trial_18 : decode cX9_trial 18 = .ok (.iload_n 3, 1) := dq_29 (by decide +kernel)
theorem dX9_trial_19 : decode cX9_trial 19 = .ok (.invokevirtual 380, 3) := dq_182 (by decide +kernel)
theorem dX9_trial_22 : decode cX9_trial 22 = .ok (.ireturn, 1) := dq_172 (by decide +kernel)
theorem dX9_trialOf_0 : decode cX9_trialOf 0 = .ok (.aload_n 0, 1) := dq_42 (by decide +kernel)
theorem dX9_trialOf_1 : decode cX9_trialOf 1 = .ok (.iload_n 1, 1) := dq_27 (by decide +kernel)
theorem dX9_trialOf_2 : decode cX9_trialOf 2 = .ok (.iload_n 2, 1) := dq_28 (by decide +kernel)
theorem dX9_trialOf_3 : decode cX9_trialOf 3 = .ok (.iload_n 3, 1) := dq_29 (by decide +kernel)
theorem dX9_trialOf_4 : decode cX9_trialOf 4 = .ok (.invokevirtual 281, 3) := dq_182 (by decide +kernel)
theorem dX9_trialOf_7 : decode cX9_trialOf 7 = .ok (.aload_n 0, 1) := dq_42 (by decide +kernel)
theorem dX9_trialOf_8 : decode cX9_trialOf 8 = .ok (.getfield 70, 3) := dq_180 (by decide +kernel)
theorem dX9_trialOf_11 : decode cX9_trialOf 11 = .ok (.iconst 0, 1) := dq_3 (by decide +kernel)
theorem dX9_trialOf_12 : decode cX9_trialOf 12 = .ok (.baload, 1) := dq_51 (by decide +kernel)
theorem dX9_trialOf_13 : decode cX9_trialOf 13 = .ok (.ifCond .eq 10, 3) := dq_153 (by decide +kernel)
theorem dX9_trialOf_16 : decode cX9_trialOf 16 = .ok (.aload_n 0, 1) := dq_42 (by decide +kernel)
theorem dX9_trialOf_17 : decode cX9_trialOf 17 = .ok (.getfield 278, 3) := dq_180 (by decide +kernel)
theorem dX9_trialOf_20 : decode cX9_trialOf 20 = .ok (.ifCond .ne 6, 3) := dq_154 (by decide +kernel)
theorem dX9_trialOf_23 : decode cX9_trialOf 23 = .ok (.ldc 169, 2) := dq_18 (by decide +kernel)
theorem dX9_trialOf_25 : decode cX9_trialOf 25 = .ok (.ireturn, 1) := dq_172 (by decide +kernel)
theorem dX9_trialOf_26 : decode cX9_trialOf 26 = .ok (.iconst 0, 1) := dq_3 (by decide +kernel)
theorem dX9_trialOf_27 : decode cX9_trialOf 27 = .ok (.istore 4, 2) := dq_54 (by decide +kernel)
theorem dX9_trialOf_29 : decode cX9_trialOf 29 = .ok (.iconst 0, 1) := dq_3 (by decide +kernel)
theorem dX9_trialOf_30 : decode cX9_trialOf 30 = .ok (.istore 5, 2) := dq_54 (by decide +kernel)
theorem dX9_trialOf_32 : decode cX9_trialOf 32 = .ok (.bipush 100, 2) := dq_16 (by decide +kernel)
theorem dX9_trialOf_34 : decode cX9_trialOf 34 = .ok (.istore 6, 2) := dq_54 (by decide +kernel)
theorem dX9_trialOf_36 : decode cX9_trialOf 36 = .ok (.bipush (-100), 2) := dq_16 (by decide +kernel)
theorem dX9_trialOf_38 : decode cX9_trialOf 38 = .ok (.istore 7, 2) := dq_54 (by decide +kernel)
theorem dX9_trialOf_40 : decode cX9_trialOf 40 = .ok (.iconst 0, 1) := dq_3 (by decide +kernel)
theorem dX9_trialOf_41 : decode cX9_trialOf 41 = .ok (.istore 8, 2) := dq_54 (by decide +kernel)
theorem dX9_trialOf_43 : decode cX9_trialOf 43 = .ok (.iload 8, 2) := dq_21 (by decide +kernel)
theorem dX9_trialOf_45 : decode cX9_trialOf 45 = .ok (.aload_n 0, 1) := dq_42 (by decide +kernel)
theorem dX9_trialOf_46 : decode cX9_trialOf 46 = .ok (.getfield 278, 3) := dq_180 (by decide +kernel)
theorem dX9_trialOf_49 : decode cX9_trialOf 49 = .ok (.if_icmp .ge 125, 3) := dq_162 (by decide +kernel)
theorem dX9_trialOf_52 : decode cX9_trialOf 52 = .ok (.iload 4, 2) := dq_21 (by decide +kernel)
theorem dX9_trialOf_54 : decode cX9_trialOf 54 = .ok (.aload_n 0, 1) := dq_42 (by decide +kernel)
theorem dX9_trialOf_55 : decode cX9_trialOf 55 = .ok (.getfield 60, 3) := dq_180 (by decide +kernel)
theorem dX9_trialOf_58 : decode cX9_trialOf 58 = .ok (.iload 8, 2) := dq_21 (by decide +kernel)
theorem dX9_trialOf_60 : decode cX9_trialOf 60 = .ok (.iaload, 1) := dq_46 (by decide +kernel)
theorem dX9_trialOf_61 : decode cX9_trialOf 61 = .ok (.iadd, 1) := dq_96 (by decide +kernel)
theorem dX9_trialOf_62 : decode cX9_trialOf 62 = .ok (.istore 4, 2) := dq_54 (by decide +kernel)
theorem dX9_trialOf_64 : decode cX9_trialOf 64 = .ok (.iload 8, 2) := dq_21 (by decide +kernel)
theorem dX9_trialOf_66 : decode cX9_trialOf 66 = .ok (.ifCond .ne 7, 3) := dq_154 (by decide +kernel)
theorem dX9_trialOf_69 : decode cX9_trialOf 69 = .ok (.iconst 0, 1) := dq_3 (by decide +kernel)
theorem dX9_trialOf_70 : decode cX9_trialOf 70 = .ok (.goto 23, 3) := dq_167 (by decide +kernel)
theorem dX9_trialOf_73 : decode cX9_trialOf 73 = .ok (.aload_n 0, 1) := dq_42 (by decide +kernel)
theorem dX9_trialOf_74 : decode cX9_trialOf 74 = .ok (.getfield 60, 3) := dq_180 (by decide +kernel)
theorem dX9_trialOf_77 : decode cX9_trialOf 77 = .ok (.iload 8, 2) := dq_21 (by decide +kernel)
theorem dX9_trialOf_79 : decode cX9_trialOf 79 = .ok (.iaload, 1) := dq_46 (by decide +kernel)
theorem dX9_trialOf_80 : decode cX9_trialOf 80 = .ok (.aload_n 0, 1) := dq_42 (by decide +kernel)
theorem dX9_trialOf_81 : decode cX9_trialOf 81 = .ok (.getfield 60, 3) := dq_180 (by decide +kernel)
theorem dX9_trialOf_84 : decode cX9_trialOf 84 = .ok (.iload 8, 2) := dq_21 (by decide +kernel)
theorem dX9_trialOf_86 : decode cX9_trialOf 86 = .ok (.iconst 1, 1) := dq_4 (by decide +kernel)
theorem dX9_trialOf_87 : decode cX9_trialOf 87 = .ok (.isub, 1) := dq_100 (by decide +kernel)
theorem dX9_trialOf_88 : decode cX9_trialOf 88 = .ok (.iaload, 1) := dq_46 (by decide +kernel)
theorem dX9_trialOf_89 : decode cX9_trialOf 89 = .ok (.isub, 1) := dq_100 (by decide +kernel)
theorem dX9_trialOf_90 : decode cX9_trialOf 90 = .ok (.invokestatic 182, 3) := dq_184 (by decide +kernel)
theorem dX9_trialOf_93 : decode cX9_trialOf 93 = .ok (.istore 9, 2) := dq_54 (by decide +kernel)
theorem dX9_trialOf_95 : decode cX9_trialOf 95 = .ok (.iload 9, 2) := dq_21 (by decide +kernel)
theorem dX9_trialOf_97 : decode cX9_trialOf 97 = .ok (.iload 5, 2) := dq_21 (by decide +kernel)
theorem dX9_trialOf_99 : decode cX9_trialOf 99 = .ok (.if_icmp .le 8, 3) := dq_164 (by decide +kernel)
theorem dX9_trialOf_102 : decode cX9_trialOf 102 = .ok (.iload 9, 2) := dq_21 (by decide +kernel)
theorem dX9_trialOf_104 : decode cX9_trialOf 104 = .ok (.goto 5, 3) := dq_167 (by decide +kernel)
theorem dX9_trialOf_107 : decode cX9_trialOf 107 = .ok (.iload 5, 2) := dq_21 (by decide +kernel)
theorem dX9_trialOf_109 : decode cX9_trialOf 109 = .ok (.istore 5, 2) := dq_54 (by decide +kernel)
theorem dX9_trialOf_111 : decode cX9_trialOf 111 = .ok (.aload_n 0, 1) := dq_42 (by decide +kernel)
theorem dX9_trialOf_112 : decode cX9_trialOf 112 = .ok (.iload_n 1, 1) := dq_27 (by decide +kernel)
theorem dX9_trialOf_113 : decode cX9_trialOf 113 = .ok (.aload_n 0, 1) := dq_42 (by decide +kernel)
theorem dX9_trialOf_114 : decode cX9_trialOf 114 = .ok (.getfield 57, 3) := dq_180 (by decide +kernel)
theorem dX9_trialOf_117 : decode cX9_trialOf 117 = .ok (.iload 8, 2) := dq_21 (by decide +kernel)
theorem dX9_trialOf_119 : decode cX9_trialOf 119 = .ok (.iaload, 1) := dq_46 (by decide +kernel)
theorem dX9_trialOf_120 : decode cX9_trialOf 120 = .ok (.invokevirtual 227, 3) := dq_182 (by decide +kernel)
theorem dX9_trialOf_123 : decode cX9_trialOf 123 = .ok (.istore 10, 2) := dq_54 (by decide +kernel)
theorem dX9_trialOf_125 : decode cX9_trialOf 125 = .ok (.iload 10, 2) := dq_21 (by decide +kernel)
theorem dX9_trialOf_127 : decode cX9_trialOf 127 = .ok (.sipush (-1000), 3) := dq_17 (by decide +kernel)
theorem dX9_trialOf_130 : decode cX9_trialOf 130 = .ok (.if_icmp .ne 6, 3) := dq_160 (by decide +kernel)
theorem dX9_trialOf_133 : decode cX9_trialOf 133 = .ok (.goto 35, 3) := dq_167 (by decide +kernel)
theorem dX9_trialOf_136 : decode cX9_trialOf 136 = .ok (.iload 10, 2) := dq_21 (by decide +kernel)
theorem dX9_trialOf_138 : decode cX9_trialOf 138 = .ok (.iload 6, 2) := dq_21 (by decide +kernel)
theorem dX9_trialOf_140 : decode cX9_trialOf 140 = .ok (.if_icmp .ge 8, 3) := dq_162 (by decide +kernel)
theorem dX9_trialOf_143 : decode cX9_trialOf 143 = .ok (.iload 10, 2) := dq_21 (by decide +kernel)
theorem dX9_trialOf_145 : decode cX9_trialOf 145 = .ok (.goto 5, 3) := dq_167 (by decide +kernel)
theorem dX9_trialOf_148 : decode cX9_trialOf 148 = .ok (.iload 6, 2) := dq_21 (by decide +kernel)
theorem dX9_trialOf_150 : decode cX9_trialOf 150 = .ok (.istore 6, 2) := dq_54 (by decide +kernel)
theorem dX9_trialOf_152 : decode cX9_trialOf 152 = .ok (.iload 10, 2) := dq_21 (by decide +kernel)
theorem dX9_trialOf_154 : decode cX9_trialOf 154 = .ok (.iload 7, 2) := dq_21 (by decide +kernel)
theorem dX9_trialOf_156 : decode cX9_trialOf 156 = .ok (.if_icmp .le 8, 3) := dq_164 (by decide +kernel)
theorem dX9_trialOf_159 : decode cX9_trialOf 159 = .ok (.iload 10, 2) := dq_21 (by decide +kernel)
theorem dX9_trialOf_161 : decode cX9_trialOf 161 = .ok (.goto 5, 3) := dq_167 (by decide +kernel)
theorem dX9_trialOf_164 : decode cX9_trialOf 164 = .ok (.iload 7, 2) := dq_21 (by decide +kernel)
theorem dX9_trialOf_166 : decode cX9_trialOf 166 = .ok (.istore 7, 2) := dq_54 (by decide +kernel)
theorem dX9_trialOf_168 : decode cX9_trialOf 168 = .ok (.iinc 8 1, 3) := dq_132 (by decide +kernel)
theorem dX9_trialOf_171 : decode cX9_trialOf 171 = .ok (.goto (-128), 3) := dq_167 (by decide +kernel)
theorem dX9_trialOf_174 : decode cX9_trialOf 174 = .ok (.aload_n 0, 1) := dq_42 (by decide +kernel)
theorem dX9_trialOf_175 : decode cX9_trialOf 175 = .ok (.getfield 88, 3) := dq_180 (by decide +kernel)
theorem dX9_trialOf_178 : decode cX9_trialOf 178 = .ok (.iconst 0, 1) := dq_3 (by decide +kernel)
theorem dX9_trialOf_179 : decode cX9_trialOf 179 = .ok (.aload_n 0, 1) := dq_42 (by decide +kernel)
theorem dX9_trialOf_180 : decode cX9_trialOf 180 = .ok (.getfield 278, 3) := dq_180 (by decide +kernel)
theorem dX9_trialOf_183 : decode cX9_trialOf 183 = .ok (.iastore, 1) := dq_79 (by decide +kernel)
theorem dX9_trialOf_184 : decode cX9_trialOf 184 = .ok (.aload_n 0, 1) := dq_42 (by decide +kernel)
theorem dX9_trialOf_185 : decode cX9_trialOf 185 = .ok (.getfield 88, 3) := dq_180 (by decide +kernel)
theorem dX9_trialOf_188 : decode cX9_trialOf 188 = .ok (.iconst 1, 1) := dq_4 (by decide +kernel)
theorem dX9_trialOf_189 : decode cX9_trialOf 189 = .ok (.aload_n 0, 1) := dq_42 (by decide +kernel)
theorem dX9_trialOf_190 : decode cX9_trialOf 190 = .ok (.getfield 63, 3) := dq_180 (by decide +kernel)
theorem dX9_trialOf_193 : decode cX9_trialOf 193 = .ok (.iconst 0, 1) := dq_3 (by decide +kernel)
theorem dX9_trialOf_194 : decode cX9_trialOf 194 = .ok (.iaload, 1) := dq_46 (by decide +kernel)
theorem dX9_trialOf_195 : decode cX9_trialOf 195 = .ok (.iastore, 1) := dq_79 (by decide +kernel)
theorem dX9_trialOf_196 : decode cX9_trialOf 196 = .ok (.aload_n 0, 1) := dq_42 (by decide +kernel)
theorem dX9_trialOf_197 : decode cX9_trialOf 197 = .ok (.getfield 88, 3) := dq_180 (by decide +kernel)
theorem dX9_trialOf_200 : decode cX9_trialOf 200 = .ok (.iconst 2, 1) := dq_5 (by decide +kernel)
theorem dX9_trialOf_201 : decode cX9_trialOf 201 = .ok (.aload_n 0, 1) := dq_42 (by decide +kernel)
theorem dX9_trialOf_202 : decode cX9_trialOf 202 = .ok (.getfield 63, 3) := dq_180 (by decide +kernel)
theorem dX9_trialOf_205 : decode cX9_trialOf 205 = .ok (.aload_n 0, 1) := dq_42 (by decide +kernel)
theorem dX9_trialOf_206 : decode cX9_trialOf 206 = .ok (.getfield 278, 3) := dq_180 (by decide +kernel)
theorem dX9_trialOf_209 : decode cX9_trialOf 209 = .ok (.iconst 1, 1) := dq_4 (by decide +kernel)
theorem dX9_trialOf_210 : decode cX9_trialOf 210 = .ok (.isub, 1) := dq_100 (by decide +kernel)
theorem dX9_trialOf_211 : decode cX9_trialOf 211 = .ok (.iaload, 1) := dq_46 (by decide +kernel)
theorem dX9_trialOf_212 : decode cX9_trialOf 212 = .ok (.iastore, 1) := dq_79 (by decide +kernel)
theorem dX9_trialOf_213 : decode cX9_trialOf 213 = .ok (.aload_n 0, 1) := dq_42 (by decide +kernel)
theorem dX9_trialOf_214 : decode cX9_trialOf 214 = .ok (.getfield 88, 3) := dq_180 (by decide +kernel)
theorem dX9_trialOf_217 : decode cX9_trialOf 217 = .ok (.iconst 3, 1) := dq_6 (by decide +kernel)
theorem dX9_trialOf_218 : decode cX9_trialOf 218 = .ok (.aload_n 0, 1) := dq_42 (by decide +kernel)
theorem dX9_trialOf_219 : decode cX9_trialOf 219 = .ok (.getfield 63, 3) := dq_180 (by decide +kernel)
theorem dX9_trialOf_222 : decode cX9_trialOf 222 = .ok (.aload_n 0, 1) := dq_42 (by decide +kernel)
theorem dX9_trialOf_223 : decode cX9_trialOf 223 = .ok (.getfield 278, 3) := dq_180 (by decide +kernel)
theorem dX9_trialOf_226 : decode cX9_trialOf 226 = .ok (.iconst 1, 1) := dq_4 (by decide +kernel)
theorem dX9_trialOf_227 : decode cX9_trialOf 227 = .ok (.isub, 1) := dq_100 (by decide +kernel)
theorem dX9_trialOf_228 : decode cX9_trialOf 228 = .ok (.iaload, 1) := dq_46 (by decide +kernel)
theorem dX9_trialOf_229 : decode cX9_trialOf 229 = .ok (.aload_n 0, 1) := dq_42 (by decide +kernel)
theorem dX9_trialOf_230 : decode cX9_trialOf 230 = .ok (.getfield 63, 3) := dq_180 (by decide +kernel)
theorem dX9_trialOf_233 : decode cX9_trialOf 233 = .ok (.iconst 0, 1) := dq_3 (by decide +kernel)
theorem dX9_trialOf_234 : decode cX9_trialOf 234 = .ok (.iaload, 1) := dq_46 (by decide +kernel)
theorem dX9_trialOf_235 : decode cX9_trialOf 235 = .ok (.isub, 1) := dq_100 (by decide +kernel)
theorem dX9_trialOf_236 : decode cX9_trialOf 236 = .ok (.iastore, 1) := dq_79 (by decide +kernel)
theorem dX9_trialOf_237 : decode cX9_trialOf 237 = .ok (.aload_n 0, 1) := dq_42 (by decide +kernel)
theorem dX9_trialOf_238 : decode cX9_trialOf 238 = .ok (.getfield 88, 3) := dq_180 (by decide +kernel)
theorem dX9_trialOf_241 : decode cX9_trialOf 241 = .ok (.iconst 4, 1) := dq_7 (by decide +kernel)
theorem dX9_trialOf_242 : decode cX9_trialOf 242 = .ok (.iload_n 3, 1) := dq_29 (by decide +kernel)
theorem dX9_trialOf_243 : decode cX9_trialOf 243 = .ok (.iload_n 2, 1) := dq_28 (by decide +kernel)
theorem dX9_trialOf_244 : decode cX9_trialOf 244 = .ok (.isub, 1) := dq_100 (by decide +kernel)
theorem dX9_trialOf_245 : decode cX9_trialOf 245 = .ok (.aload_n 0, 1) := dq_42 (by decide +kernel)
theorem dX9_trialOf_246 : decode cX9_trialOf 246 = .ok (.getfield 278, 3) := dq_180 (by decide +kernel)
theorem dX9_trialOf_249 : decode cX9_trialOf 249 = .ok (.isub, 1) := dq_100 (by decide +kernel)
theorem dX9_trialOf_250 : decode cX9_trialOf 250 = .ok (.iastore, 1) := dq_79 (by decide +kernel)
theorem dX9_trialOf_251 : decode cX9_trialOf 251 = .ok (.aload_n 0, 1) := dq_42 (by decide +kernel)
theorem dX9_trialOf_252 : decode cX9_trialOf 252 = .ok (.getfield 88, 3) := dq_180 (by decide +kernel)
theorem dX9_trialOf_255 : decode cX9_trialOf 255 = .ok (.iconst 5, 1) := dq_8 (by decide +kernel)
theorem dX9_trialOf_256 : decode cX9_trialOf 256 = .ok (.iload 5, 2) := dq_21 (by decide +kernel)
theorem dX9_trialOf_258 : decode cX9_trialOf 258 = .ok (.iastore, 1) := dq_79 (by decide +kernel)
theorem dX9_trialOf_259 : decode cX9_trialOf 259 = .ok (.aload_n 0, 1) := dq_42 (by decide +kernel)
theorem dX9_trialOf_260 : decode cX9_trialOf 260 = .ok (.getfield 88, 3) := dq_180 (by decide +kernel)
theorem dX9_trialOf_263 : decode cX9_trialOf 263 = .ok (.bipush 6, 2) := dq_16 (by decide +kernel)
theorem dX9_trialOf_265 : decode cX9_trialOf 265 = .ok (.aload_n 0, 1) := dq_42 (by decide +kernel)
theorem dX9_trialOf_266 : decode cX9_trialOf 266 = .ok (.getfield 60, 3) := dq_180 (by decide +kernel)
theorem dX9_trialOf_269 : decode cX9_trialOf 269 = .ok (.aload_n 0, 1) := dq_42 (by decide +kernel)
theorem dX9_trialOf_270 : decode cX9_trialOf 270 = .ok (.getfield 278, 3) := dq_180 (by decide +kernel)
theorem dX9_trialOf_273 : decode cX9_trialOf 273 = .ok (.iconst 1, 1) := dq_4 (by decide +kernel)
theorem dX9_trialOf_274 : decode cX9_trialOf 274 = .ok (.isub, 1) := dq_100 (by decide +kernel)
theorem dX9_trialOf_275 : decode cX9_trialOf 275 = .ok (.iaload, 1) := dq_46 (by decide +kernel)
theorem dX9_trialOf_276 : decode cX9_trialOf 276 = .ok (.aload_n 0, 1) := dq_42 (by decide +kernel)
theorem dX9_trialOf_277 : decode cX9_trialOf 277 = .ok (.getfield 60, 3) := dq_180 (by decide +kernel)
theorem dX9_trialOf_280 : decode cX9_trialOf 280 = .ok (.iconst 0, 1) := dq_3 (by decide +kernel)
theorem dX9_trialOf_281 : decode cX9_trialOf 281 = .ok (.iaload, 1) := dq_46 (by decide +kernel)
theorem dX9_trialOf_282 : decode cX9_trialOf 282 = .ok (.isub, 1) := dq_100 (by decide +kernel)
theorem dX9_trialOf_283 : decode cX9_trialOf 283 = .ok (.iastore, 1) := dq_79 (by decide +kernel)
theorem dX9_trialOf_284 : decode cX9_trialOf 284 = .ok (.aload_n 0, 1) := dq_42 (by decide +kernel)
theorem dX9_trialOf_285 : decode cX9_trialOf 285 = .ok (.getfield 88, 3) := dq_180 (by decide +kernel)
theorem dX9_trialOf_288 : decode cX9_trialOf 288 = .ok (.bipush 7, 2) := dq_16 (by decide +kernel)
theorem dX9_trialOf_290 : decode cX9_trialOf 290 = .ok (.iload 4, 2) := dq_21 (by decide +kernel)
theorem dX9_trialOf_292 : decode cX9_trialOf 292 = .ok (.iastore, 1) := dq_79 (by decide +kernel)
theorem dX9_trialOf_293 : decode cX9_trialOf 293 = .ok (.aload_n 0, 1) := dq_42 (by decide +kernel)
theorem dX9_trialOf_294 : decode cX9_trialOf 294 = .ok (.getfield 88, 3) := dq_180 (by decide +kernel)
theorem dX9_trialOf_297 : decode cX9_trialOf 297 = .ok (.bipush 8, 2) := dq_16 (by decide +kernel)
theorem dX9_trialOf_299 : decode cX9_trialOf 299 = .ok (.iload 7, 2) := dq_21 (by decide +kernel)
theorem dX9_trialOf_301 : decode cX9_trialOf 301 = .ok (.iload 6, 2) := dq_21 (by decide +kernel)
theorem dX9_trialOf_303 : decode cX9_trialOf 303 = .ok (.if_icmp .ge 7, 3) := dq_162 (by decide +kernel)
theorem dX9_trialOf_306 : decode cX9_trialOf 306 = .ok (.iconst 0, 1) := dq_3 (by decide +kernel)
theorem dX9_trialOf_307 : decode cX9_trialOf 307 = .ok (.goto 8, 3) := dq_167 (by decide +kernel)
theorem dX9_trialOf_310 : decode cX9_trialOf 310 = .ok (.iload 7, 2) := dq_21 (by decide +kernel)
theorem dX9_trialOf_312 : decode cX9_trialOf 312 = .ok (.iload 6, 2) := dq_21 (by decide +kernel)
theorem dX9_trialOf_314 : decode cX9_trialOf 314 = .ok (.isub, 1) := dq_100 (by decide +kernel)
theorem dX9_trialOf_315 : decode cX9_trialOf 315 = .ok (.iastore, 1) := dq_79 (by decide +kernel)
theorem dX9_trialOf_316 : decode cX9_trialOf 316 = .ok (.aload_n 0, 1) := dq_42 (by decide +kernel)
theorem dX9_trialOf_317 : decode cX9_trialOf 317 = .ok (.iconst 0, 1) := dq_3 (by decide +kernel)
theorem dX9_trialOf_318 : decode cX9_trialOf 318 = .ok (.invokevirtual 377, 3) := dq_182 (by decide +kernel)
theorem dX9_trialOf_321 : decode cX9_trialOf 321 = .ok (.ireturn, 1) := dq_172 (by decide +kernel)
theorem dX9_two_0 : decode cX9_two 0 = .ok (.aload_n 0, 1) := dq_42 (by decide +kernel)
theorem dX9_two_1 : decode cX9_two 1 = .ok (.getfield 199, 3) := dq_180 (by decide +kernel)
theorem dX9_two_4 : decode cX9_two 4 = .ok (.lload_n 3, 1) := dq_33 (by decide +kernel)
theorem dX9_two_5 : decode cX9_two 5 = .ok (.lmul, 1) := dq_105 (by decide +kernel)
theorem dX9_two_6 : decode cX9_two 6 = .ok (.lload_n 1, 1) := dq_31 (by decide +kernel)
theorem dX9_two_7 : decode cX9_two 7 = .ok (.lload_n 1, 1) := dq_31 (by decide +kernel)
theorem dX9_two_8 : decode cX9_two 8 = .ok (.lmul, 1) := dq_105 (by decide +kernel)
theorem dX9_two_9 : decode cX9_two 9 = .ok (.lsub, 1) := dq_101 (by decide +kernel)
theorem dX9_two_10 : decode cX9_two 10 = .ok (.lreturn, 1) := dq_173 (by decide +kernel)
theorem dX9_warmth_0 : decode cX9_warmth 0 = .ok (.iload_n 1, 1) := dq_27 (by decide +kernel)
theorem dX9_warmth_1 : decode cX9_warmth 1 = .ok (.invokestatic 159, 3) := dq_184 (by decide +kernel)
theorem dX9_warmth_4 : decode cX9_warmth 4 = .ok (.ifCond .eq 20, 3) := dq_153 (by decide +kernel)
theorem dX9_warmth_7 : decode cX9_warmth 7 = .ok (.iload_n 2, 1) := dq_28 (by decide +kernel)
theorem dX9_warmth_8 : decode cX9_warmth 8 = .ok (.bipush (-100), 2) := dq_16 (by decide +kernel)
theorem dX9_warmth_10 : decode cX9_warmth 10 = .ok (.if_icmp .eq 16, 3) := dq_159 (by decide +kernel)
theorem dX9_warmth_13 : decode cX9_warmth 13 = .ok (.iload_n 2, 1) := dq_28 (by decide +kernel)
theorem dX9_warmth_14 : decode cX9_warmth 14 = .ok (.bipush (-50), 2) := dq_16 (by decide +kernel)
theorem dX9_warmth_16 : decode cX9_warmth 16 = .ok (.bipush 50, 2) := dq_16 (by decide +kernel)
theorem dX9_warmth_18 : decode cX9_warmth 18 = .ok (.invokestatic 148, 3) := dq_184 (by decide +kernel)
theorem dX9_warmth_21 : decode cX9_warmth 21 = .ok (.ifCond .ne 5, 3) := dq_154 (by decide +kernel)
theorem dX9_warmth_24 : decode cX9_warmth 24 = .ok (.iconst (-1), 1) := dq_2 (by decide +kernel)
theorem dX9_warmth_25 : decode cX9_warmth 25 = .ok (.ireturn, 1) := dq_172 (by decide +kernel)
theorem dX9_warmth_26 : decode cX9_warmth 26 = .ok (.aload_n 0, 1) := dq_42 (by decide +kernel)
theorem dX9_warmth_27 : decode cX9_warmth 27 = .ok (.getfield 13, 3) := dq_180 (by decide +kernel)
theorem dX9_warmth_30 : decode cX9_warmth 30 = .ok (.iload_n 1, 1) := dq_27 (by decide +kernel)
theorem dX9_warmth_31 : decode cX9_warmth 31 = .ok (.iload_n 2, 1) := dq_28 (by decide +kernel)
theorem dX9_warmth_32 : decode cX9_warmth 32 = .ok (.bipush (-100), 2) := dq_16 (by decide +kernel)
theorem dX9_warmth_34 : decode cX9_warmth 34 = .ok (.if_icmp .ne 9, 3) := dq_160 (by decide +kernel)
theorem dX9_warmth_37 : decode cX9_warmth 37 = .ok (.sipush (-1000), 3) := dq_17 (by decide +kernel)
theorem dX9_warmth_40 : decode cX9_warmth 40 = .ok (.goto 4, 3) := dq_167 (by decide +kernel)
theorem dX9_warmth_43 : decode cX9_warmth 43 = .ok (.iload_n 2, 1) := dq_28 (by decide +kernel)
theorem dX9_warmth_44 : decode cX9_warmth 44 = .ok (.iastore, 1) := dq_79 (by decide +kernel)
theorem dX9_warmth_45 : decode cX9_warmth 45 = .ok (.iconst 1, 1) := dq_4 (by decide +kernel)
theorem dX9_warmth_46 : decode cX9_warmth 46 = .ok (.ireturn, 1) := dq_172 (by decide +kernel)
theorem dX9_warmthOf_0 : decode cX9_warmthOf 0 = .ok (.aload_n 0, 1) := dq_42 (by decide +kernel)
theorem dX9_warmthOf_1 : decode cX9_warmthOf 1 = .ok (.getfield 17, 3) := dq_180 (by decide +kernel)
theorem dX9_warmthOf_4 : decode cX9_warmthOf 4 = .ok (.iload_n 1, 1) := dq_27 (by decide +kernel)
theorem dX9_warmthOf_5 : decode cX9_warmthOf 5 = .ok (.iaload, 1) := dq_46 (by decide +kernel)
theorem dX9_warmthOf_6 : decode cX9_warmthOf 6 = .ok (.iconst 1, 1) := dq_4 (by decide +kernel)
theorem dX9_warmthOf_7 : decode cX9_warmthOf 7 = .ok (.if_icmp .ne 12, 3) := dq_160 (by decide +kernel)
theorem dX9_warmthOf_10 : decode cX9_warmthOf 10 = .ok (.aload_n 0, 1) := dq_42 (by decide +kernel)
theorem dX9_warmthOf_11 : decode cX9_warmthOf 11 = .ok (.getfield 20, 3) := dq_180 (by decide +kernel)
theorem dX9_warmthOf_14 : decode cX9_warmthOf 14 = .ok (.iload_n 1, 1) := dq_27 (by decide +kernel)
theorem dX9_warmthOf_15 : decode cX9_warmthOf 15 = .ok (.iaload, 1) := dq_46 (by decide +kernel)
theorem dX9_warmthOf_16 : decode cX9_warmthOf 16 = .ok (.goto 9, 3) := dq_167 (by decide +kernel)
theorem dX9_warmthOf_19 : decode cX9_warmthOf 19 = .ok (.aload_n 0, 1) := dq_42 (by decide +kernel)
theorem dX9_warmthOf_20 : decode cX9_warmthOf 20 = .ok (.getfield 13, 3) := dq_180 (by decide +kernel)
theorem dX9_warmthOf_23 : decode cX9_warmthOf 23 = .ok (.iload_n 2, 1) := dq_28 (by decide +kernel)
theorem dX9_warmthOf_24 : decode cX9_warmthOf 24 = .ok (.iaload, 1) := dq_46 (by decide +kernel)
theorem dX9_warmthOf_25 : decode cX9_warmthOf 25 = .ok (.ireturn, 1) := dq_172 (by decide +kernel)
theorem dX9_watchAt_0 : decode cX9_watchAt 0 = .ok (.iload_n 1, 1) := dq_27 (by decide +kernel)
theorem dX9_watchAt_1 : decode cX9_watchAt 1 = .ok (.invokestatic 152, 3) := dq_184 (by decide +kernel)
theorem dX9_watchAt_4 : decode cX9_watchAt 4 = .ok (.ifCond .ne 7, 3) := dq_154 (by decide +kernel)
theorem dX9_watchAt_7 : decode cX9_watchAt 7 = .ok (.iconst (-1), 1) := dq_2 (by decide +kernel)
theorem dX9_watchAt_8 : decode cX9_watchAt 8 = .ok (.goto 35, 3) := dq_167 (by decide +kernel)
theorem dX9_watchAt_11 : decode cX9_watchAt 11 = .ok (.aload_n 0, 1) := dq_42 (by decide +kernel)
theorem dX9_watchAt_12 : decode cX9_watchAt 12 = .ok (.getfield 17, 3) := dq_180 (by decide +kernel)
theorem dX9_watchAt_15 : decode cX9_watchAt 15 = .ok (.iload_n 1, 1) := dq_27 (by decide +kernel)
theorem dX9_watchAt_16 : decode cX9_watchAt 16 = .ok (.iaload, 1) := dq_46 (by decide +kernel)
theorem dX9_watchAt_17 : decode cX9_watchAt 17 = .ok (.bipush (-5), 2) := dq_16 (by decide +kernel)
theorem dX9_watchAt_19 : decode cX9_watchAt 19 = .ok (.if_icmp .ne 8, 3) := dq_160 (by decide +kernel)
theorem dX9_watchAt_22 : decode cX9_watchAt 22 = .ok (.bipush (-2), 2) := dq_16 (by decide +kernel)
theorem dX9_watchAt_24 : decode cX9_watchAt 24 = .ok (.goto 19, 3) := dq_167 (by decide +kernel)
theorem dX9_watchAt_27 : decode cX9_watchAt 27 = .ok (.aload_n 0, 1) := dq_42 (by decide +kernel)
theorem dX9_watchAt_28 : decode cX9_watchAt 28 = .ok (.getfield 17, 3) := dq_180 (by decide +kernel)
theorem dX9_watchAt_31 : decode cX9_watchAt 31 = .ok (.iload_n 1, 1) := dq_27 (by decide +kernel)
theorem dX9_watchAt_32 : decode cX9_watchAt 32 = .ok (.iaload, 1) := dq_46 (by decide +kernel)
theorem dX9_watchAt_33 : decode cX9_watchAt 33 = .ok (.iconst 2, 1) := dq_5 (by decide +kernel)
theorem dX9_watchAt_34 : decode cX9_watchAt 34 = .ok (.if_icmp .ne 8, 3) := dq_160 (by decide +kernel)
theorem dX9_watchAt_37 : decode cX9_watchAt 37 = .ok (.bipush (-3), 2) := dq_16 (by decide +kernel)
theorem dX9_watchAt_39 : decode cX9_watchAt 39 = .ok (.goto 4, 3) := dq_167 (by decide +kernel)
theorem dX9_watchAt_42 : decode cX9_watchAt 42 = .ok (.iconst 0, 1) := dq_3 (by decide +kernel)
theorem dX9_watchAt_43 : decode cX9_watchAt 43 = .ok (.ireturn, 1) := dq_172 (by decide +kernel)
theorem dX9_wordOf_0 : decode cX9_wordOf 0 = .ok (.lload_n 0, 1) := dq_30 (by decide +kernel)
theorem dX9_wordOf_1 : decode cX9_wordOf 1 = .ok (.ldc2_w 316, 3) := dq_20 (by decide +kernel)
theorem dX9_wordOf_4 : decode cX9_wordOf 4 = .ok (.lcmp, 1) := dq_148 (by decide +kernel)
theorem dX9_wordOf_5 : decode cX9_wordOf 5 = .ok (.ifCond .ne 6, 3) := dq_154 (by decide +kernel)
theorem dX9_wordOf_8 : decode cX9_wordOf 8 = .ok (.bipush 10, 2) := dq_16 (by decide +kernel)
theorem dX9_wordOf_10 : decode cX9_wordOf 10 = .ok (.ireturn, 1) := dq_172 (by decide +kernel)
theorem dX9_wordOf_11 : decode cX9_wordOf 11 = .ok (.lload_n 0, 1) := dq_30 (by decide +kernel)
theorem dX9_wordOf_12 : decode cX9_wordOf 12 = .ok (.ldc2_w 318, 3) := dq_20 (by decide +kernel)
theorem dX9_wordOf_15 : decode cX9_wordOf 15 = .ok (.lcmp, 1) := dq_148 (by decide +kernel)
theorem dX9_wordOf_16 : decode cX9_wordOf 16 = .ok (.ifCond .ne 6, 3) := dq_154 (by decide +kernel)
theorem dX9_wordOf_19 : decode cX9_wordOf 19 = .ok (.bipush 20, 2) := dq_16 (by decide +kernel)
theorem dX9_wordOf_21 : decode cX9_wordOf 21 = .ok (.ireturn, 1) := dq_172 (by decide +kernel)
theorem dX9_wordOf_22 : decode cX9_wordOf 22 = .ok (.lload_n 0, 1) := dq_30 (by decide +kernel)
theorem dX9_wordOf_23 : decode cX9_wordOf 23 = .ok (.ldc2_w 320, 3) := dq_20 (by decide +kernel)
theorem dX9_wordOf_26 : decode cX9_wordOf 26 = .ok (.lcmp, 1) := dq_148 (by decide +kernel)
theorem dX9_wordOf_27 : decode cX9_wordOf 27 = .ok (.ifCond .ne 6, 3) := dq_154 (by decide +kernel)
theorem dX9_wordOf_30 : decode cX9_wordOf 30 = .ok (.bipush 30, 2) := dq_16 (by decide +kernel)
theorem dX9_wordOf_32 : decode cX9_wordOf 32 = .ok (.ireturn, 1) := dq_172 (by decide +kernel)
theorem dX9_wordOf_33 : decode cX9_wordOf 33 = .ok (.lload_n 0, 1) := dq_30 (by decide +kernel)
theorem dX9_wordOf_34 : decode cX9_wordOf 34 = .ok (.ldc2_w 322, 3) := dq_20 (by decide +kernel)
theorem dX9_wordOf_37 : decode cX9_wordOf 37 = .ok (.lcmp, 1) := dq_148 (by decide +kernel)
theorem dX9_wordOf_38 : decode cX9_wordOf 38 = .ok (.ifCond .ne 6, 3) := dq_154 (by decide +kernel)
theorem dX9_wordOf_41 : decode cX9_wordOf 41 = .ok (.bipush 71, 2) := dq_16 (by decide +kernel)
theorem dX9_wordOf_43 : decode cX9_wordOf 43 = .ok (.ireturn, 1) := dq_172 (by decide +kernel)
theorem dX9_wordOf_44 : decode cX9_wordOf 44 = .ok (.lload_n 0, 1) := dq_30 (by decide +kernel)
theorem dX9_wordOf_45 : decode cX9_wordOf 45 = .ok (.ldc2_w 324, 3) := dq_20 (by decide +kernel)
theorem dX9_wordOf_48 : decode cX9_wordOf 48 = .ok (.lcmp, 1) := dq_148 (by decide +kernel)
theorem dX9_wordOf_49 : decode cX9_wordOf 49 = .ok (.ifCond .ne 15, 3) := dq_154 (by decide +kernel)
theorem dX9_wordOf_52 : decode cX9_wordOf 52 = .ok (.iload_n 2, 1) := dq_28 (by decide +kernel)
theorem dX9_wordOf_53 : decode cX9_wordOf 53 = .ok (.ifCond .ne 8, 3) := dq_154 (by decide +kernel)
theorem dX9_wordOf_56 : decode cX9_wordOf 56 = .ok (.bipush 100, 2) := dq_16 (by decide +kernel)
theorem dX9_wordOf_58 : decode cX9_wordOf 58 = .ok (.goto 5, 3) := dq_167 (by decide +kernel)
theorem dX9_wordOf_61 : decode cX9_wordOf 61 = .ok (.bipush 122, 2) := dq_16 (by decide +kernel)
theorem dX9_wordOf_63 : decode cX9_wordOf 63 = .ok (.ireturn, 1) := dq_172 (by decide +kernel)
theorem dX9_wordOf_64 : decode cX9_wordOf 64 = .ok (.iload_n 2, 1) := dq_28 (by decide +kernel)
theorem dX9_wordOf_65 : decode cX9_wordOf 65 = .ok (.ifCond .ne 95, 3) := dq_154 (by decide +kernel)
theorem dX9_wordOf_68 : decode cX9_wordOf 68 = .ok (.lload_n 0, 1) := dq_30 (by decide +kernel)
theorem dX9_wordOf_69 : decode cX9_wordOf 69 = .ok (.ldc2_w 326, 3) := dq_20 (by decide +kernel)
theorem dX9_wordOf_72 : decode cX9_wordOf 72 = .ok (.lcmp, 1) := dq_148 (by decide +kernel)
theorem dX9_wordOf_73 : decode cX9_wordOf 73 = .ok (.ifCond .ne 6, 3) := dq_154 (by decide +kernel)
theorem dX9_wordOf_76 : decode cX9_wordOf 76 = .ok (.bipush 101, 2) := dq_16 (by decide +kernel)
theorem dX9_wordOf_78 : decode cX9_wordOf 78 = .ok (.ireturn, 1) := dq_172 (by decide +kernel)
theorem dX9_wordOf_79 : decode cX9_wordOf 79 = .ok (.lload_n 0, 1) := dq_30 (by decide +kernel)
theorem dX9_wordOf_80 : decode cX9_wordOf 80 = .ok (.ldc2_w 328, 3) := dq_20 (by decide +kernel)
theorem dX9_wordOf_83 : decode cX9_wordOf 83 = .ok (.lcmp, 1) := dq_148 (by decide +kernel)
theorem dX9_wordOf_84 : decode cX9_wordOf 84 = .ok (.ifCond .ne 6, 3) := dq_154 (by decide +kernel)
theorem dX9_wordOf_87 : decode cX9_wordOf 87 = .ok (.bipush 102, 2) := dq_16 (by decide +kernel)
theorem dX9_wordOf_89 : decode cX9_wordOf 89 = .ok (.ireturn, 1) := dq_172 (by decide +kernel)
theorem dX9_wordOf_90 : decode cX9_wordOf 90 = .ok (.lload_n 0, 1) := dq_30 (by decide +kernel)
theorem dX9_wordOf_91 : decode cX9_wordOf 91 = .ok (.ldc2_w 330, 3) := dq_20 (by decide +kernel)
theorem dX9_wordOf_94 : decode cX9_wordOf 94 = .ok (.lcmp, 1) := dq_148 (by decide +kernel)
theorem dX9_wordOf_95 : decode cX9_wordOf 95 = .ok (.ifCond .ne 6, 3) := dq_154 (by decide +kernel)
theorem dX9_wordOf_98 : decode cX9_wordOf 98 = .ok (.bipush 103, 2) := dq_16 (by decide +kernel)
theorem dX9_wordOf_100 : decode cX9_wordOf 100 = .ok (.ireturn, 1) := dq_172 (by decide +kernel)
theorem dX9_wordOf_101 : decode cX9_wordOf 101 = .ok (.lload_n 0, 1) := dq_30 (by decide +kernel)
theorem dX9_wordOf_102 : decode cX9_wordOf 102 = .ok (.ldc2_w 332, 3) := dq_20 (by decide +kernel)
theorem dX9_wordOf_105 : decode cX9_wordOf 105 = .ok (.lcmp, 1) := dq_148 (by decide +kernel)
theorem dX9_wordOf_106 : decode cX9_wordOf 106 = .ok (.ifCond .ne 6, 3) := dq_154 (by decide +kernel)
theorem dX9_wordOf_109 : decode cX9_wordOf 109 = .ok (.bipush 104, 2) := dq_16 (by decide +kernel)
theorem dX9_wordOf_111 : decode cX9_wordOf 111 = .ok (.ireturn, 1) := dq_172 (by decide +kernel)
theorem dX9_wordOf_112 : decode cX9_wordOf 112 = .ok (.lload_n 0, 1) := dq_30 (by decide +kernel)
theorem dX9_wordOf_113 : decode cX9_wordOf 113 = .ok (.ldc2_w 334, 3) := dq_20 (by decide +kernel)
theorem dX9_wordOf_116 : decode cX9_wordOf 116 = .ok (.lcmp, 1) := dq_148 (by decide +kernel)
theorem dX9_wordOf_117 : decode cX9_wordOf 117 = .ok (.ifCond .ne 6, 3) := dq_154 (by decide +kernel)
theorem dX9_wordOf_120 : decode cX9_wordOf 120 = .ok (.bipush 105, 2) := dq_16 (by decide +kernel)
theorem dX9_wordOf_122 : decode cX9_wordOf 122 = .ok (.ireturn, 1) := dq_172 (by decide +kernel)
theorem dX9_wordOf_123 : decode cX9_wordOf 123 = .ok (.lload_n 0, 1) := dq_30 (by decide +kernel)
theorem dX9_wordOf_124 : decode cX9_wordOf 124 = .ok (.ldc2_w 336, 3) := dq_20 (by decide +kernel)
theorem dX9_wordOf_127 : decode cX9_wordOf 127 = .ok (.lcmp, 1) := dq_148 (by decide +kernel)
theorem dX9_wordOf_128 : decode cX9_wordOf 128 = .ok (.ifCond .ne 6, 3) := dq_154 (by decide +kernel)
theorem dX9_wordOf_131 : decode cX9_wordOf 131 = .ok (.bipush 106, 2) := dq_16 (by decide +kernel)
theorem dX9_wordOf_133 : decode cX9_wordOf 133 = .ok (.ireturn, 1) := dq_172 (by decide +kernel)
theorem dX9_wordOf_134 : decode cX9_wordOf 134 = .ok (.lload_n 0, 1) := dq_30 (by decide +kernel)
theorem dX9_wordOf_135 : decode cX9_wordOf 135 = .ok (.ldc2_w 338, 3) := dq_20 (by decide +kernel)
theorem dX9_wordOf_138 : decode cX9_wordOf 138 = .ok (.lcmp, 1) := dq_148 (by decide +kernel)
theorem dX9_wordOf_139 : decode cX9_wordOf 139 = .ok (.ifCond .ne 6, 3) := dq_154 (by decide +kernel)
theorem dX9_wordOf_142 : decode cX9_wordOf 142 = .ok (.bipush 107, 2) := dq_16 (by decide +kernel)
theorem dX9_wordOf_144 : decode cX9_wordOf 144 = .ok (.ireturn, 1) := dq_172 (by decide +kernel)
theorem dX9_wordOf_145 : decode cX9_wordOf 145 = .ok (.lload_n 0, 1) := dq_30 (by decide +kernel)
theorem dX9_wordOf_146 : decode cX9_wordOf 146 = .ok (.ldc2_w 340, 3) := dq_20 (by decide +kernel)
theorem dX9_wordOf_149 : decode cX9_wordOf 149 = .ok (.lcmp, 1) := dq_148 (by decide +kernel)
theorem dX9_wordOf_150 : decode cX9_wordOf 150 = .ok (.ifCond .ne 8, 3) := dq_154 (by decide +kernel)
theorem dX9_wordOf_153 : decode cX9_wordOf 153 = .ok (.bipush 108, 2) := dq_16 (by decide +kernel)
theorem dX9_wordOf_155 : decode cX9_wordOf 155 = .ok (.goto 4, 3) := dq_167 (by decide +kernel)
theorem dX9_wordOf_158 : decode cX9_wordOf 158 = .ok (.iconst 2, 1) := dq_5 (by decide +kernel)
theorem dX9_wordOf_159 : decode cX9_wordOf 159 = .ok (.ireturn, 1) := dq_172 (by decide +kernel)
theorem dX9_wordOf_160 : decode cX9_wordOf 160 = .ok (.lload_n 0, 1) := dq_30 (by decide +kernel)
theorem dX9_wordOf_161 : decode cX9_wordOf 161 = .ok (.ldc2_w 342, 3) := dq_20 (by decide +kernel)
theorem dX9_wordOf_164 : decode cX9_wordOf 164 = .ok (.lcmp, 1) := dq_148 (by decide +kernel)
theorem dX9_wordOf_165 : decode cX9_wordOf 165 = .ok (.ifCond .ne 6, 3) := dq_154 (by decide +kernel)
theorem dX9_wordOf_168 : decode cX9_wordOf 168 = .ok (.bipush 120, 2) := dq_16 (by decide +kernel)
theorem dX9_wordOf_170 : decode cX9_wordOf 170 = .ok (.ireturn, 1) := dq_172 (by decide +kernel)
theorem dX9_wordOf_171 : decode cX9_wordOf 171 = .ok (.lload_n 0, 1) := dq_30 (by decide +kernel)
theorem dX9_wordOf_172 : decode cX9_wordOf 172 = .ok (.ldc2_w 344, 3) := dq_20 (by decide +kernel)
theorem dX9_wordOf_175 : decode cX9_wordOf 175 = .ok (.lcmp, 1) := dq_148 (by decide +kernel)
theorem dX9_wordOf_176 : decode cX9_wordOf 176 = .ok (.ifCond .ne 6, 3) := dq_154 (by decide +kernel)
theorem dX9_wordOf_179 : decode cX9_wordOf 179 = .ok (.bipush 121, 2) := dq_16 (by decide +kernel)
theorem dX9_wordOf_181 : decode cX9_wordOf 181 = .ok (.ireturn, 1) := dq_172 (by decide +kernel)
theorem dX9_wordOf_182 : decode cX9_wordOf 182 = .ok (.lload_n 0, 1) := dq_30 (by decide +kernel)
theorem dX9_wordOf_183 : decode cX9_wordOf 183 = .ok (.ldc2_w 346, 3) := dq_20 (by decide +kernel)
theorem dX9_wordOf_186 : decode cX9_wordOf 186 = .ok (.lcmp, 1) := dq_148 (by decide +kernel)
theorem dX9_wordOf_187 : decode cX9_wordOf 187 = .ok (.ifCond .ne 8, 3) := dq_154 (by decide +kernel)
theorem dX9_wordOf_190 : decode cX9_wordOf 190 = .ok (.bipush 123, 2) := dq_16 (by decide +kernel)
theorem dX9_wordOf_192 : decode cX9_wordOf 192 = .ok (.goto 4, 3) := dq_167 (by decide +kernel)
theorem dX9_wordOf_195 : decode cX9_wordOf 195 = .ok (.iconst 2, 1) := dq_5 (by decide +kernel)
theorem dX9_wordOf_196 : decode cX9_wordOf 196 = .ok (.ireturn, 1) := dq_172 (by decide +kernel)
theorem dX9_work_0 : decode cX9_work 0 = .ok (.aload_n 0, 1) := dq_42 (by decide +kernel)
theorem dX9_work_1 : decode cX9_work 1 = .ok (.getfield 118, 3) := dq_180 (by decide +kernel)
theorem dX9_work_4 : decode cX9_work 4 = .ok (.bipush 40, 2) := dq_16 (by decide +kernel)
theorem dX9_work_6 : decode cX9_work 6 = .ok (.iload_n 1, 1) := dq_27 (by decide +kernel)
theorem dX9_work_7 : decode cX9_work 7 = .ok (.imul, 1) := dq_104 (by decide +kernel)
theorem dX9_work_8 : decode cX9_work 8 = .ok (.iload_n 2, 1) := dq_28 (by decide +kernel)
theorem dX9_work_9 : decode cX9_work 9 = .ok (.iadd, 1) := dq_96 (by decide +kernel)
theorem dX9_work_10 : decode cX9_work 10 = .ok (.iaload, 1) := dq_46 (by decide +kernel)
theorem dX9_work_11 : decode cX9_work 11 = .ok (.aload_n 0, 1) := dq_42 (by decide +kernel)
theorem dX9_work_12 : decode cX9_work 12 = .ok (.getfield 94, 3) := dq_180 (by decide +kernel)
theorem dX9_work_15 : decode cX9_work 15 = .ok (.iload_n 1, 1) := dq_27 (by decide +kernel)
theorem dX9_work_16 : decode cX9_work 16 = .ok (.iaload, 1) := dq_46 (by decide +kernel)
theorem dX9_work_17 : decode cX9_work 17 = .ok (.isub, 1) := dq_100 (by decide +kernel)
theorem dX9_work_18 : decode cX9_work 18 = .ok (.istore_n 3, 1) := dq_62 (by decide +kernel)
theorem dX9_work_19 : decode cX9_work 19 = .ok (.aload_n 0, 1) := dq_42 (by decide +kernel)
theorem dX9_work_20 : decode cX9_work 20 = .ok (.getfield 91, 3) := dq_180 (by decide +kernel)
theorem dX9_work_23 : decode cX9_work 23 = .ok (.iload_n 1, 1) := dq_27 (by decide +kernel)
theorem dX9_work_24 : decode cX9_work 24 = .ok (.iaload, 1) := dq_46 (by decide +kernel)
theorem dX9_work_25 : decode cX9_work 25 = .ok (.iconst 2, 1) := dq_5 (by decide +kernel)
theorem dX9_work_26 : decode cX9_work 26 = .ok (.if_icmp .ne 7, 3) := dq_160 (by decide +kernel)
theorem dX9_work_29 : decode cX9_work 29 = .ok (.iconst 1, 1) := dq_4 (by decide +kernel)
theorem dX9_work_30 : decode cX9_work 30 = .ok (.goto 4, 3) := dq_167 (by decide +kernel)
theorem dX9_work_33 : decode cX9_work 33 = .ok (.iconst 0, 1) := dq_3 (by decide +kernel)
theorem dX9_work_34 : decode cX9_work 34 = .ok (.istore 4, 2) := dq_54 (by decide +kernel)
theorem dX9_work_36 : decode cX9_work 36 = .ok (.iconst 0, 1) := dq_3 (by decide +kernel)
theorem dX9_work_37 : decode cX9_work 37 = .ok (.istore 5, 2) := dq_54 (by decide +kernel)
theorem dX9_work_39 : decode cX9_work 39 = .ok (.iload 5, 2) := dq_21 (by decide +kernel)
theorem dX9_work_41 : decode cX9_work 41 = .ok (.iconst 3, 1) := dq_6 (by decide +kernel)
theorem dX9_work_42 : decode cX9_work 42 = .ok (.if_icmp .ge 150, 3) := dq_162 (by decide +kernel)
theorem dX9_work_45 : decode cX9_work 45 = .ok (.iconst 3, 1) := dq_6 (by decide +kernel)
theorem dX9_work_46 : decode cX9_work 46 = .ok (.iload_n 1, 1) := dq_27 (by decide +kernel)
theorem dX9_work_47 : decode cX9_work 47 = .ok (.imul, 1) := dq_104 (by decide +kernel)
theorem dX9_work_48 : decode cX9_work 48 = .ok (.iload 5, 2) := dq_21 (by decide +kernel)
theorem dX9_work_50 : decode cX9_work 50 = .ok (.iadd, 1) := dq_96 (by decide +kernel)
theorem dX9_work_51 : decode cX9_work 51 = .ok (.istore 6, 2) := dq_54 (by decide +kernel)
theorem dX9_work_53 : decode cX9_work 53 = .ok (.iload 4, 2) := dq_21 (by decide +kernel)
theorem dX9_work_55 : decode cX9_work 55 = .ok (.ifCond .eq 36, 3) := dq_153 (by decide +kernel)
theorem dX9_work_58 : decode cX9_work 58 = .ok (.iload_n 3, 1) := dq_29 (by decide +kernel)
theorem dX9_work_59 : decode cX9_work 59 = .ok (.i2l, 1) := dq_133 (by decide +kernel)
theorem dX9_work_60 : decode cX9_work 60 = .ok (.aload_n 0, 1) := dq_42 (by decide +kernel)
theorem dX9_work_61 : decode cX9_work 61 = .ok (.getfield 112, 3) := dq_180 (by decide +kernel)
theorem dX9_work_64 : decode cX9_work 64 = .ok (.iload 6, 2) := dq_21 (by decide +kernel)
theorem dX9_work_66 : decode cX9_work 66 = .ok (.iaload, 1) := dq_46 (by decide +kernel)
theorem dX9_work_67 : decode cX9_work 67 = .ok (.aload_n 0, 1) := dq_42 (by decide +kernel)
theorem dX9_work_68 : decode cX9_work 68 = .ok (.getfield 103, 3) := dq_180 (by decide +kernel)
theorem dX9_work_71 : decode cX9_work 71 = .ok (.iload 6, 2) := dq_21 (by decide +kernel)
theorem dX9_work_73 : decode cX9_work 73 = .ok (.iaload, 1) := dq_46 (by decide +kernel)
theorem dX9_work_74 : decode cX9_work 74 = .ok (.isub, 1) := dq_100 (by decide +kernel)
theorem dX9_work_75 : decode cX9_work 75 = .ok (.i2l, 1) := dq_133 (by decide +kernel)
theorem dX9_work_76 : decode cX9_work 76 = .ok (.lmul, 1) := dq_105 (by decide +kernel)
theorem dX9_work_77 : decode cX9_work 77 = .ok (.aload_n 0, 1) := dq_42 (by decide +kernel)
theorem dX9_work_78 : decode cX9_work 78 = .ok (.getfield 97, 3) := dq_180 (by decide +kernel)
theorem dX9_work_81 : decode cX9_work 81 = .ok (.iload_n 1, 1) := dq_27 (by decide +kernel)
theorem dX9_work_82 : decode cX9_work 82 = .ok (.iaload, 1) := dq_46 (by decide +kernel)
theorem dX9_work_83 : decode cX9_work 83 = .ok (.i2l, 1) := dq_133 (by decide +kernel)
theorem dX9_work_84 : decode cX9_work 84 = .ok (.invokestatic 267, 3) := dq_184 (by decide +kernel)
theorem dX9_work_87 : decode cX9_work 87 = .ok (.l2i, 1) := dq_136 (by decide +kernel)
theorem dX9_work_88 : decode cX9_work 88 = .ok (.goto 12, 3) := dq_167 (by decide +kernel)
theorem dX9_work_91 : decode cX9_work 91 = .ok (.aload_n 0, 1) := dq_42 (by decide +kernel)
theorem dX9_work_92 : decode cX9_work 92 = .ok (.getfield 106, 3) := dq_180 (by decide +kernel)
theorem dX9_work_95 : decode cX9_work 95 = .ok (.iload 6, 2) := dq_21 (by decide +kernel)
theorem dX9_work_97 : decode cX9_work 97 = .ok (.iaload, 1) := dq_46 (by decide +kernel)
theorem dX9_work_98 : decode cX9_work 98 = .ok (.iload_n 3, 1) := dq_29 (by decide +kernel)
theorem dX9_work_99 : decode cX9_work 99 = .ok (.imul, 1) := dq_104 (by decide +kernel)
theorem dX9_work_100 : decode cX9_work 100 = .ok (.istore 7, 2) := dq_54 (by decide +kernel)
theorem dX9_work_102 : decode cX9_work 102 = .ok (.aload_n 0, 1) := dq_42 (by decide +kernel)
theorem dX9_work_103 : decode cX9_work 103 = .ok (.getfield 127, 3) := dq_180 (by decide +kernel)
theorem dX9_work_106 : decode cX9_work 106 = .ok (.iload 5, 2) := dq_21 (by decide +kernel)
theorem dX9_work_108 : decode cX9_work 108 = .ok (.aload_n 0, 1) := dq_42 (by decide +kernel)
theorem dX9_work_109 : decode cX9_work 109 = .ok (.getfield 121, 3) := dq_180 (by decide +kernel)
theorem dX9_work_112 : decode cX9_work 112 = .ok (.iconst 3, 1) := dq_6 (by decide +kernel)
theorem dX9_work_113 : decode cX9_work 113 = .ok (.bipush 40, 2) := dq_16 (by decide +kernel)
theorem dX9_work_115 : decode cX9_work 115 = .ok (.iload_n 1, 1) := dq_27 (by decide +kernel)
theorem dX9_work_116 : decode cX9_work 116 = .ok (.imul, 1) := dq_104 (by decide +kernel)
theorem dX9_work_117 : decode cX9_work 117 = .ok (.iload_n 2, 1) := dq_28 (by decide +kernel)
theorem dX9_work_118 : decode cX9_work 118 = .ok (.iadd, 1) := dq_96 (by decide +kernel)
theorem dX9_work_119 : decode cX9_work 119 = .ok (.imul, 1) := dq_104 (by decide +kernel)
theorem dX9_work_120 : decode cX9_work 120 = .ok (.iload 5, 2) := dq_21 (by decide +kernel)
theorem dX9_work_122 : decode cX9_work 122 = .ok (.iadd, 1) := dq_96 (by decide +kernel)
theorem dX9_work_123 : decode cX9_work 123 = .ok (.iaload, 1) := dq_46 (by decide +kernel)
theorem dX9_work_124 : decode cX9_work 124 = .ok (.aload_n 0, 1) := dq_42 (by decide +kernel)
theorem dX9_work_125 : decode cX9_work 125 = .ok (.getfield 103, 3) := dq_180 (by decide +kernel)
theorem dX9_work_128 : decode cX9_work 128 = .ok (.iload 6, 2) := dq_21 (by decide +kernel)
theorem dX9_work_130 : decode cX9_work 130 = .ok (.iaload, 1) := dq_46 (by decide +kernel)
theorem dX9_work_131 : decode cX9_work 131 = .ok (.isub, 1) := dq_100 (by decide +kernel)
theorem dX9_work_132 : decode cX9_work 132 = .ok (.iload 7, 2) := dq_21 (by decide +kernel)
theorem dX9_work_134 : decode cX9_work 134 = .ok (.isub, 1) := dq_100 (by decide +kernel)
theorem dX9_work_135 : decode cX9_work 135 = .ok (.iastore, 1) := dq_79 (by decide +kernel)
theorem dX9_work_136 : decode cX9_work 136 = .ok (.iload 4, 2) := dq_21 (by decide +kernel)
theorem dX9_work_138 : decode cX9_work 138 = .ok (.ifCond .eq 26, 3) := dq_153 (by decide +kernel)
theorem dX9_work_141 : decode cX9_work 141 = .ok (.aload_n 0, 1) := dq_42 (by decide +kernel)
theorem dX9_work_142 : decode cX9_work 142 = .ok (.getfield 97, 3) := dq_180 (by decide +kernel)
theorem dX9_work_145 : decode cX9_work 145 = .ok (.iload_n 1, 1) := dq_27 (by decide +kernel)
theorem dX9_work_146 : decode cX9_work 146 = .ok (.iaload, 1) := dq_46 (by decide +kernel)
theorem dX9_work_147 : decode cX9_work 147 = .ok (.iload_n 3, 1) := dq_29 (by decide +kernel)
theorem dX9_work_148 : decode cX9_work 148 = .ok (.isub, 1) := dq_100 (by decide +kernel)
theorem dX9_work_149 : decode cX9_work 149 = .ok (.iload_n 3, 1) := dq_29 (by decide +kernel)
theorem dX9_work_150 : decode cX9_work 150 = .ok (.if_icmp .ge 14, 3) := dq_162 (by decide +kernel)
theorem dX9_work_153 : decode cX9_work 153 = .ok (.aload_n 0, 1) := dq_42 (by decide +kernel)
theorem dX9_work_154 : decode cX9_work 154 = .ok (.getfield 97, 3) := dq_180 (by decide +kernel)
theorem dX9_work_157 : decode cX9_work 157 = .ok (.iload_n 1, 1) := dq_27 (by decide +kernel)
theorem dX9_work_158 : decode cX9_work 158 = .ok (.iaload, 1) := dq_46 (by decide +kernel)
theorem dX9_work_159 : decode cX9_work 159 = .ok (.iload_n 3, 1) := dq_29 (by decide +kernel)
theorem dX9_work_160 : decode cX9_work 160 = .ok (.isub, 1) := dq_100 (by decide +kernel)
theorem dX9_work_161 : decode cX9_work 161 = .ok (.goto 4, 3) := dq_167 (by decide +kernel)
theorem dX9_work_164 : decode cX9_work 164 = .ok (.iload_n 3, 1) := dq_29 (by decide +kernel)
theorem dX9_work_165 : decode cX9_work 165 = .ok (.istore 8, 2) := dq_54 (by decide +kernel)
theorem dX9_work_167 : decode cX9_work 167 = .ok (.aload_n 0, 1) := dq_42 (by decide +kernel)
theorem dX9_work_168 : decode cX9_work 168 = .ok (.getfield 130, 3) := dq_180 (by decide +kernel)
theorem dX9_work_171 : decode cX9_work 171 = .ok (.iload 5, 2) := dq_21 (by decide +kernel)
theorem dX9_work_173 : decode cX9_work 173 = .ok (.aload_n 0, 1) := dq_42 (by decide +kernel)
theorem dX9_work_174 : decode cX9_work 174 = .ok (.getfield 109, 3) := dq_180 (by decide +kernel)
theorem dX9_work_177 : decode cX9_work 177 = .ok (.iload 6, 2) := dq_21 (by decide +kernel)
theorem dX9_work_179 : decode cX9_work 179 = .ok (.iaload, 1) := dq_46 (by decide +kernel)
theorem dX9_work_180 : decode cX9_work 180 = .ok (.iload 8, 2) := dq_21 (by decide +kernel)
theorem dX9_work_182 : decode cX9_work 182 = .ok (.imul, 1) := dq_104 (by decide +kernel)
theorem dX9_work_183 : decode cX9_work 183 = .ok (.iconst 5, 1) := dq_8 (by decide +kernel)
theorem dX9_work_184 : decode cX9_work 184 = .ok (.iadd, 1) := dq_96 (by decide +kernel)
theorem dX9_work_185 : decode cX9_work 185 = .ok (.iastore, 1) := dq_79 (by decide +kernel)
theorem dX9_work_186 : decode cX9_work 186 = .ok (.iinc 5 1, 3) := dq_132 (by decide +kernel)
theorem dX9_work_189 : decode cX9_work 189 = .ok (.goto (-150), 3) := dq_167 (by decide +kernel)
theorem dX9_work_192 : decode cX9_work 192 = .ok (.aload_n 0, 1) := dq_42 (by decide +kernel)
theorem dX9_work_193 : decode cX9_work 193 = .ok (.getfield 70, 3) := dq_180 (by decide +kernel)
theorem dX9_work_196 : decode cX9_work 196 = .ok (.iconst 1, 1) := dq_4 (by decide +kernel)
theorem dX9_work_197 : decode cX9_work 197 = .ok (.baload, 1) := dq_51 (by decide +kernel)
theorem dX9_work_198 : decode cX9_work 198 = .ok (.ifCond .ne 5, 3) := dq_154 (by decide +kernel)
theorem dX9_work_201 : decode cX9_work 201 = .ok (.iconst (-1), 1) := dq_2 (by decide +kernel)
theorem dX9_work_202 : decode cX9_work 202 = .ok (.ireturn, 1) := dq_172 (by decide +kernel)
theorem dX9_work_203 : decode cX9_work 203 = .ok (.iconst (-1), 1) := dq_2 (by decide +kernel)
theorem dX9_work_204 : decode cX9_work 204 = .ok (.istore 5, 2) := dq_54 (by decide +kernel)
theorem dX9_work_206 : decode cX9_work 206 = .ok (.iconst 0, 1) := dq_3 (by decide +kernel)
theorem dX9_work_207 : decode cX9_work 207 = .ok (.istore 6, 2) := dq_54 (by decide +kernel)
theorem dX9_work_209 : decode cX9_work 209 = .ok (.iconst 0, 1) := dq_3 (by decide +kernel)
theorem dX9_work_210 : decode cX9_work 210 = .ok (.istore 7, 2) := dq_54 (by decide +kernel)
theorem dX9_work_212 : decode cX9_work 212 = .ok (.iload 7, 2) := dq_21 (by decide +kernel)
theorem dX9_work_214 : decode cX9_work 214 = .ok (.iconst 3, 1) := dq_6 (by decide +kernel)
theorem dX9_work_215 : decode cX9_work 215 = .ok (.if_icmp .ge 124, 3) := dq_162 (by decide +kernel)
theorem dX9_work_218 : decode cX9_work 218 = .ok (.aload_n 0, 1) := dq_42 (by decide +kernel)
theorem dX9_work_219 : decode cX9_work 219 = .ok (.getfield 127, 3) := dq_180 (by decide +kernel)
theorem dX9_work_222 : decode cX9_work 222 = .ok (.iload 7, 2) := dq_21 (by decide +kernel)
theorem dX9_work_224 : decode cX9_work 224 = .ok (.iconst 1, 1) := dq_4 (by decide +kernel)
theorem dX9_work_225 : decode cX9_work 225 = .ok (.iadd, 1) := dq_96 (by decide +kernel)
theorem dX9_work_226 : decode cX9_work 226 = .ok (.iconst 3, 1) := dq_6 (by decide +kernel)
theorem dX9_work_227 : decode cX9_work 227 = .ok (.irem, 1) := dq_112 (by decide +kernel)
theorem dX9_work_228 : decode cX9_work 228 = .ok (.iaload, 1) := dq_46 (by decide +kernel)
theorem dX9_work_229 : decode cX9_work 229 = .ok (.i2l, 1) := dq_133 (by decide +kernel)
theorem dX9_work_230 : decode cX9_work 230 = .ok (.aload_n 0, 1) := dq_42 (by decide +kernel)
theorem dX9_work_231 : decode cX9_work 231 = .ok (.getfield 127, 3) := dq_180 (by decide +kernel)
theorem dX9_work_234 : decode cX9_work 234 = .ok (.iload 7, 2) := dq_21 (by decide +kernel)
theorem dX9_work_236 : decode cX9_work 236 = .ok (.iconst 2, 1) := dq_5 (by decide +kernel)
theorem dX9_work_237 : decode cX9_work 237 = .ok (.iadd, 1) := dq_96 (by decide +kernel)
theorem dX9_work_238 : decode cX9_work 238 = .ok (.iconst 3, 1) := dq_6 (by decide +kernel)
theorem dX9_work_239 : decode cX9_work 239 = .ok (.irem, 1) := dq_112 (by decide +kernel)
theorem dX9_work_240 : decode cX9_work 240 = .ok (.iaload, 1) := dq_46 (by decide +kernel)
theorem dX9_work_241 : decode cX9_work 241 = .ok (.i2l, 1) := dq_133 (by decide +kernel)
theorem dX9_work_242 : decode cX9_work 242 = .ok (.ladd, 1) := dq_97 (by decide +kernel)
theorem dX9_work_243 : decode cX9_work 243 = .ok (.lstore 8, 2) := dq_55 (by decide +kernel)
theorem dX9_work_245 : decode cX9_work 245 = .ok (.aload_n 0, 1) := dq_42 (by decide +kernel)
theorem dX9_work_246 : decode cX9_work 246 = .ok (.getfield 88, 3) := dq_180 (by decide +kernel)
theorem dX9_work_249 : decode cX9_work 249 = .ok (.bipush 20, 2) := dq_16 (by decide +kernel)
theorem dX9_work_251 : decode cX9_work 251 = .ok (.aload_n 0, 1) := dq_42 (by decide +kernel)
theorem dX9_work_252 : decode cX9_work 252 = .ok (.getfield 127, 3) := dq_180 (by decide +kernel)
theorem dX9_work_255 : decode cX9_work 255 = .ok (.iload 7, 2) := dq_21 (by decide +kernel)
theorem dX9_work_257 : decode cX9_work 257 = .ok (.iaload, 1) := dq_46 (by decide +kernel)
theorem dX9_work_258 : decode cX9_work 258 = .ok (.i2l, 1) := dq_133 (by decide +kernel)
theorem dX9_work_259 : decode cX9_work 259 = .ok (.lload 8, 2) := dq_22 (by decide +kernel)
theorem dX9_work_261 : decode cX9_work 261 = .ok (.ldc2_w 400, 3) := dq_20 (by decide +kernel)
theorem dX9_work_264 : decode cX9_work 264 = .ok (.invokestatic 267, 3) := dq_184 (by decide +kernel)
theorem dX9_work_267 : decode cX9_work 267 = .ok (.lsub, 1) := dq_101 (by decide +kernel)
theorem dX9_work_268 : decode cX9_work 268 = .ok (.l2i, 1) := dq_136 (by decide +kernel)
theorem dX9_work_269 : decode cX9_work 269 = .ok (.invokestatic 182, 3) := dq_184 (by decide +kernel)
theorem dX9_work_272 : decode cX9_work 272 = .ok (.iastore, 1) := dq_79 (by decide +kernel)
theorem dX9_work_273 : decode cX9_work 273 = .ok (.aload_n 0, 1) := dq_42 (by decide +kernel)
theorem dX9_work_274 : decode cX9_work 274 = .ok (.getfield 88, 3) := dq_180 (by decide +kernel)
theorem dX9_work_277 : decode cX9_work 277 = .ok (.bipush 21, 2) := dq_16 (by decide +kernel)
theorem dX9_work_279 : decode cX9_work 279 = .ok (.aload_n 0, 1) := dq_42 (by decide +kernel)
theorem dX9_work_280 : decode cX9_work 280 = .ok (.getfield 109, 3) := dq_180 (by decide +kernel)
theorem dX9_work_283 : decode cX9_work 283 = .ok (.iconst 3, 1) := dq_6 (by decide +kernel)
theorem dX9_work_284 : decode cX9_work 284 = .ok (.iload_n 1, 1) := dq_27 (by decide +kernel)
theorem dX9_work_285 : decode cX9_work 285 = .ok (.imul, 1) := dq_104 (by decide +kernel)
theorem dX9_work_286 : decode cX9_work 286 = .ok (.iload 7, 2) := dq_21 (by decide +kernel)
theorem dX9_work_288 : decode cX9_work 288 = .ok (.iadd, 1) := dq_96 (by decide +kernel)
theorem dX9_work_289 : decode cX9_work 289 = .ok (.iaload, 1) := dq_46 (by decide +kernel)
theorem dX9_work_290 : decode cX9_work 290 = .ok (.iastore, 1) := dq_79 (by decide +kernel)
theorem dX9_work_291 : decode cX9_work 291 = .ok (.aload_n 0, 1) := dq_42 (by decide +kernel)
theorem dX9_work_292 : decode cX9_work 292 = .ok (.getfield 88, 3) := dq_180 (by decide +kernel)
theorem dX9_work_295 : decode cX9_work 295 = .ok (.bipush 22, 2) := dq_16 (by decide +kernel)
theorem dX9_work_297 : decode cX9_work 297 = .ok (.iload_n 3, 1) := dq_29 (by decide +kernel)
theorem dX9_work_298 : decode cX9_work 298 = .ok (.iastore, 1) := dq_79 (by decide +kernel)
theorem dX9_work_299 : decode cX9_work 299 = .ok (.aload_n 0, 1) := dq_42 (by decide +kernel)
theorem dX9_work_300 : decode cX9_work 300 = .ok (.getfield 88, 3) := dq_180 (by decide +kernel)
theorem dX9_work_303 : decode cX9_work 303 = .ok (.bipush 23, 2) := dq_16 (by decide +kernel)
theorem dX9_work_305 : decode cX9_work 305 = .ok (.iload 7, 2) := dq_21 (by decide +kernel)
theorem dX9_work_307 : decode cX9_work 307 = .ok (.iastore, 1) := dq_79 (by decide +kernel)
theorem dX9_work_308 : decode cX9_work 308 = .ok (.aload_n 0, 1) := dq_42 (by decide +kernel)
theorem dX9_work_309 : decode cX9_work 309 = .ok (.iconst 1, 1) := dq_4 (by decide +kernel)
theorem dX9_work_310 : decode cX9_work 310 = .ok (.invokevirtual 377, 3) := dq_182 (by decide +kernel)
theorem dX9_work_313 : decode cX9_work 313 = .ok (.istore 10, 2) := dq_54 (by decide +kernel)
theorem dX9_work_315 : decode cX9_work 315 = .ok (.iload 10, 2) := dq_21 (by decide +kernel)
theorem dX9_work_317 : decode cX9_work 317 = .ok (.iload 6, 2) := dq_21 (by decide +kernel)
theorem dX9_work_319 : decode cX9_work 319 = .ok (.if_icmp .gt 6, 3) := dq_163 (by decide +kernel)
theorem dX9_work_322 : decode cX9_work 322 = .ok (.goto 11, 3) := dq_167 (by decide +kernel)
theorem dX9_work_325 : decode cX9_work 325 = .ok (.iload 10, 2) := dq_21 (by decide +kernel)
theorem dX9_work_327 : decode cX9_work 327 = .ok (.istore 6, 2) := dq_54 (by decide +kernel)
theorem dX9_work_329 : decode cX9_work 329 = .ok (.iload 7, 2) := dq_21 (by decide +kernel)
theorem dX9_work_331 : decode cX9_work 331 = .ok (.istore 5, 2) := dq_54 (by decide +kernel)
theorem dX9_work_333 : decode cX9_work 333 = .ok (.iinc 7 1, 3) := dq_132 (by decide +kernel)
theorem dX9_work_336 : decode cX9_work 336 = .ok (.goto (-124), 3) := dq_167 (by decide +kernel)
theorem dX9_work_339 : decode cX9_work 339 = .ok (.iload 5, 2) := dq_21 (by decide +kernel)
theorem dX9_work_341 : decode cX9_work 341 = .ok (.ireturn, 1) := dq_172 (by decide +kernel)
end
section
/-! ===== more of the reference ===== -/
def J49 (f47 f49 : Nat → Int32) : Prop := ∀ k : Nat, k < 5 → (f47 k).toInt = 2 → (f49 k).toInt ≠ 0
theorem J49_back {f47 f49 : Nat → Int32} {i j : Nat} {z : Int32} (h : J49 f47 f49) (hij : i = j) (hz : z.toInt ≠ 0) : J49 (upd f47 i 2) (upd f49 j z) := by
  subst hij
  intro k hk h2
  unfold upd at h2 ⊢
  by_cases e : k = i
  · rw [if_pos e]; exact hz
  · rw [if_neg e] at h2 ⊢; exact h k hk h2
theorem J49_sail {f47 f49 : Nat → Int32} {i : Nat} (h : J49 f47 f49) : J49 (upd f47 i 1) f49 := by
  intro k hk h2
  unfold upd at h2
  by_cases e : k = i
  · rw [if_pos e] at h2; exact absurd h2 (by decide)
  · rw [if_neg e] at h2; exact h k hk h2
theorem sub_nz {z a b : Int32} (e : z = a - b) (h : b.toInt ≠ a.toInt) : z.toInt ≠ 0 := by
  intro h2
  apply h
  have h3 : a - b = 0 := by rw [← e]; exact i_eq.mpr (by rw [h2]; rfl)
  have h4 : a = b := by
    have h5 := congrArg (fun t : Int32 => t + b) h3
    simpa using h5
  rw [h4]
def val4 (f : Nat → Int32) : Nat → Int
  | 0 => 0
  | n + 1 => 4 * val4 f n + (f n).toInt
theorem val4_succ (f : Nat → Int32) (n : Nat) : val4 f (n + 1) = 4 * val4 f n + (f n).toInt := rfl
theorem val4_out {f : Nat → Int32} {i : Nat} {v : Int32} : ∀ n : Nat, n ≤ i → val4 (upd f i v) n = val4 f n
  | 0, _ => rfl
  | n + 1, h => by
    rw [val4_succ, val4_succ, val4_out n (by omega)]
    have e : upd f i v n = f n := by unfold upd; rw [if_neg (by omega)]
    rw [e]
theorem val4_upd {f : Nat → Int32} {i : Nat} {v : Int32} : ∀ n : Nat, i < n → val4 (upd f i v) n = val4 f n + (v.toInt - (f i).toInt) * 4 ^ (n - 1 - i)
  | 0, h => absurd h (Nat.not_lt_zero i)
  | n + 1, h => by
    rw [val4_succ, val4_succ]
    by_cases e : i = n
    · subst e
      rw [val4_out i (Nat.le_refl i)]
      have e2 : upd f i v i = v := by unfold upd; rw [if_pos rfl]
      rw [e2, show i + 1 - 1 - i = 0 by omega, Int.pow_zero]
      omega
    · have e2 : upd f i v n = f n := by unfold upd; rw [if_neg (fun q => e q.symm)]
      rw [val4_upd n (by omega), e2, show n + 1 - 1 - i = (n - 1 - i) + 1 by omega, Int.pow_succ]
      generalize (4 : Int) ^ (n - 1 - i) = T
      rw [show (v.toInt - (f i).toInt) * (T * 4) = 4 * ((v.toInt - (f i).toInt) * T) by rw [Int.mul_comm T 4, ← Int.mul_assoc, Int.mul_comm (v.toInt - (f i).toInt) 4, Int.mul_assoc]]
      generalize (v.toInt - (f i).toInt) * T = U
      omega
theorem val4_rng {f : Nat → Int32} (h : ∀ k : Nat, k < 9 → 0 ≤ (f k).toInt ∧ (f k).toInt ≤ 3) : ∀ n : Nat, n ≤ 9 → 0 ≤ val4 f n ∧ val4 f n + 1 ≤ 4 ^ n
  | 0, _ => ⟨Int.le_refl 0, by show (0 : Int) + 1 ≤ 4 ^ 0; decide⟩
  | n + 1, hn => by
    have h1 := val4_rng h n (by omega)
    have h2 := h n (by omega)
    rw [val4_succ, Int.pow_succ]
    generalize (4 : Int) ^ n = T at h1 ⊢
    omega
theorem pow4_9 : ∀ n : Nat, n ≤ 9 → (4 : Int) ^ n ≤ 262144 := by decide
theorem val4_max {f : Nat → Int32} (h : ∀ k : Nat, k < 9 → 0 ≤ (f k).toInt ∧ (f k).toInt ≤ 3) {n : Int32} (h0 : 0 ≤ n.toInt) (h9 : n.toInt ≤ 9) : 0 ≤ val4 f n.toNatClampNeg ∧ val4 f n.toNatClampNeg ≤ 262143 := by
  have hc := i_clamp0 h0
  have h1 := val4_rng h n.toNatClampNeg (by omega)
  have h2 := pow4_9 n.toNatClampNeg (by omega)
  omega
/-- the carry: digit i was 3 and is 0 now -/
theorem carry_0 {f : Nat → Int32} {n i j z : Int32} {V : Int} (hi : 0 ≤ i.toInt) (hn : i.toInt < n.toInt) (hj : j.toInt = i.toInt - 1) (hz : z = f i.toNatClampNeg) (hz3 : z.toInt = 3) (h : val4 f n.toNatClampNeg + 4 ^ (n.toInt - 1 - i.toInt).toNat = V + 1) : val4 (upd f i.toNatClampNeg 0) n.toNatClampNeg + 4 ^ (n.toInt - 1 - j.toInt).toNat = V + 1 := by
  have c1 := i_clamp0 hi
  have c2 := i_clamp0 (x := n) (by omega)
  rw [val4_upd _ (by omega), ← hz, hz3, show (n.toInt - 1 - j.toInt).toNat = (n.toInt - 1 - i.toInt).toNat + 1 by omega, Int.pow_succ, show n.toNatClampNeg - 1 - i.toNatClampNeg = (n.toInt - 1 - i.toInt).toNat by omega]
  have e : (0 : Int32).toInt = 0 := by decide
  rw [e]
  generalize (4 : Int) ^ (n.toInt - 1 - i.toInt).toNat = T at h ⊢
  omega
theorem carry_1 {f : Nat → Int32} {n i z y : Int32} {V : Int} (hi : 0 ≤ i.toInt) (hn : i.toInt < n.toInt) (hz : z = f i.toNatClampNeg) (hy : y.toInt = z.toInt + 1) (h : val4 f n.toNatClampNeg + 4 ^ (n.toInt - 1 - i.toInt).toNat = V + 1) : val4 (upd f i.toNatClampNeg y) n.toNatClampNeg = V + 1 := by
  have c1 := i_clamp0 hi
  have c2 := i_clamp0 (x := n) (by omega)
  rw [val4_upd _ (by omega), ← hz, hy, show n.toNatClampNeg - 1 - i.toNatClampNeg = (n.toInt - 1 - i.toInt).toNat by omega]
  generalize (4 : Int) ^ (n.toInt - 1 - i.toInt).toNat = T at h ⊢
  rw [show (z.toInt + 1 - z.toInt) = 1 by omega, Int.one_mul]
  omega
theorem carry_e {f g : Nat → Int32} {n i : Int32} (h0 : 0 ≤ n.toInt) (h9 : n.toInt ≤ 9) (hi : i.toInt = -1) (hf : ∀ k : Nat, k < 9 → 0 ≤ (f k).toInt ∧ (f k).toInt ≤ 3) (hg : ∀ k : Nat, k < 9 → 0 ≤ (g k).toInt ∧ (g k).toInt ≤ 3) (h : val4 f n.toNatClampNeg + 4 ^ (n.toInt - 1 - i.toInt).toNat = val4 g n.toNatClampNeg + 1) : val4 f n.toNatClampNeg = 0 := by
  have c2 := i_clamp0 h0
  have h1 := val4_rng hf n.toNatClampNeg (by omega)
  have h2 := val4_rng hg n.toNatClampNeg (by omega)
  rw [show (n.toInt - 1 - i.toInt).toNat = n.toNatClampNeg by omega] at h
  omega
theorem carry_s {f : Nat → Int32} {n i : Int32} (hi : i.toInt = n.toInt - 1) : val4 f n.toNatClampNeg + 4 ^ (n.toInt - 1 - i.toInt).toNat = val4 f n.toNatClampNeg + 1 := by
  rw [show (n.toInt - 1 - i.toInt).toNat = 0 by omega]; rfl
end
section
/-! ===== what the class's parts answer, as functions ===== -/
def offS (sg fr to bv od : Nat → Int32) (src day k : Int32) : Nat → Int32
  | 0 => 0
  | i + 1 => if (sg i).toInt = src.toInt ∧ ((fr i).toInt ≤ day.toInt ∧ day.toInt ≤ (to i).toInt) ∧ (k.toInt = -1 ∨ (od i).toInt ≤ k.toInt) then offS sg fr to bv od src day k i + bv i else offS sg fr to bv od src day k i
theorem offS_succ (sg fr to bv od : Nat → Int32) (src day k : Int32) (i : Nat) : offS sg fr to bv od src day k (i + 1) = if (sg i).toInt = src.toInt ∧ ((fr i).toInt ≤ day.toInt ∧ day.toInt ≤ (to i).toInt) ∧ (k.toInt = -1 ∨ (od i).toInt ≤ k.toInt) then offS sg fr to bv od src day k i + bv i else offS sg fr to bv od src day k i := rfl
def sumF (sg fr to bv od : Nat → Int32) (n src day k : Int32) : Int32 := if src.toInt = 0 then 0 else offS sg fr to bv od src day k n.toNatClampNeg
def eX (f0 f1 sg fr to bv od : Nat → Int32) (n day k : Int32) : Int32 :=
  if (0 ≤ day.toInt ∧ day.toInt ≤ 399) ∧ (f1 day.toNatClampNeg).toInt ≠ -1 then f0 day.toNatClampNeg - sumF sg fr to bv od n (f1 day.toNatClampNeg) day k else -2000000000
def mkX (f2 : Nat → Int32) (day m : Int32) : Prop := (0 ≤ day.toInt ∧ day.toInt ≤ 399) ∧ (f2 day.toNatClampNeg &&& m).toInt ≠ 0
def rbX (f2 : Nat → Int32) (day e e2 : Int32) : Int32 :=
  if e.toInt = -2000000000 ∨ e2.toInt = -2000000000 ∨ ¬ (-999 ≤ (e2 - e).toInt ∧ (e2 - e).toInt ≤ 999) then -2000000000
  else if ((0 ≤ day.toInt ∧ day.toInt ≤ 399) ∧ (f2 day.toNatClampNeg &&& 2).toInt ≠ 0) ∨ ((0 ≤ (day + 1).toInt ∧ (day + 1).toInt ≤ 399) ∧ (f2 (day + 1).toNatClampNeg &&& 3).toInt ≠ 0) then -2000000000 else e2 - e
def rX (f0 f1 f2 sg fr to bv od : Nat → Int32) (n day k : Int32) : Int32 := rbX f2 day (eX f0 f1 sg fr to bv od n day k) (eX f0 f1 sg fr to bv od n (day + 1) k)
def ageN (f : Nat → Int32) : Nat → Int
  | 0 => 0
  | d + 1 => if (f (d + 1) &&& 1).toInt ≠ 0 then 0 else ageN f d + 1
theorem ageN_succ (f : Nat → Int32) (d : Nat) : ageN f (d + 1) = if (f (d + 1) &&& 1).toInt ≠ 0 then 0 else ageN f d + 1 := rfl
def awN (f : Nat → Int32) : Nat → Int
  | 0 => 0
  | d + 1 => awN f d + (if (f d).toInt = -1 then 0 else 1)
theorem awN_succ (f : Nat → Int32) (d : Nat) : awN f (d + 1) = awN f d + (if (f d).toInt = -1 then 0 else 1) := rfl
/-- from day a on another holder -/
def GIV (f g : Nat → Int32) (a : Int) (v : Int32) : Prop := ∀ k : Nat, k < 400 → g k = if a ≤ (k : Int) then v else f k
def GIVl (f g : Nat → Int32) (a b : Int) (v : Int32) : Prop := ∀ k : Nat, k < 400 → g k = if a ≤ (k : Int) ∧ (k : Int) < b then v else f k
theorem GIVl_0 {f : Nat → Int32} {a b : Int} {v : Int32} (h : a = b) : GIVl f f a b v := fun k _ => by rw [if_neg (by omega)]
theorem GIVl_s {f g : Nat → Int32} {a b b2 : Int} {v i : Int32} (h : GIVl f g a b v) (h0 : 0 ≤ i.toInt) (hab : a ≤ b) (hi : i.toInt = b) (hb : b2 = b + 1) : GIVl f (upd g i.toNatClampNeg v) a b2 v := fun k hk => by
  have hc := i_clamp0 h0
  unfold upd
  by_cases e : k = i.toNatClampNeg
  · rw [if_pos e, if_pos (by omega)]
  · rw [if_neg e, h k hk]
    by_cases q : a ≤ (k : Int) ∧ (k : Int) < b
    · rw [if_pos q, if_pos (by omega)]
    · rw [if_neg q, if_neg (by omega)]
theorem GIVl_e {f g : Nat → Int32} {a b : Int} {v : Int32} (h : GIVl f g a b v) (hb : 400 ≤ b) : GIV f g a v := fun k hk => by
  rw [h k hk]
  by_cases q : a ≤ (k : Int)
  · rw [if_pos q, if_pos (by omega)]
  · rw [if_neg q, if_neg (by omega)]
/-- as new -/
def NEW4 (a b c d : Nat → Int32) (n : Int) : Prop := ∀ k : Nat, (k : Int) < n → a k = 0 ∧ b k = -1 ∧ c k = 0 ∧ d k = -1
theorem NEW4_0 {a b c d : Nat → Int32} {n : Int} (h : n ≤ 0) : NEW4 a b c d n := fun k hk => by omega
theorem NEW4_s {a b c d : Nat → Int32} {n n2 : Int} {i : Int32} (h : NEW4 a b c d n) (h0 : 0 ≤ i.toInt) (hi : i.toInt = n) (hn : n2 = n + 1) : NEW4 (upd a i.toNatClampNeg 0) (upd b i.toNatClampNeg (-1)) (upd c i.toNatClampNeg 0) (upd d i.toNatClampNeg (-1)) n2 := fun k hk => by
  have hc := i_clamp0 h0
  unfold upd
  by_cases e : k = i.toNatClampNeg
  · simp [e]
  · simp only [if_neg e]
    exact h k (by omega)
theorem age_back {f : Nat → Int32} {a : Int} {m : Int32} {n : Nat} (hn : (n : Int) = m.toInt) (h1 : 1 ≤ m.toInt) (ha : a = ageN f n) (hz : (f m.toNatClampNeg &&& 1).toInt = 0) : a - 1 = ageN f (n - 1) := by
  have hc := i_clamp0 (x := m) (by omega)
  obtain ⟨k, rfl⟩ : ∃ k, n = k + 1 := ⟨n - 1, by omega⟩
  rw [ageN_succ, show k + 1 = m.toNatClampNeg by omega, if_neg (by rw [hz]; simp)] at ha
  have e : k + 1 - 1 = k := by omega
  rw [e]
  omega
theorem age_here {f : Nat → Int32} {m : Int32} {n : Nat} (hn : (n : Int) = m.toInt) (h1 : 1 ≤ m.toInt) (hz : (f m.toNatClampNeg &&& 1).toInt ≠ 0) : ageN f n = 0 := by
  have hc := i_clamp0 (x := m) (by omega)
  obtain ⟨k, rfl⟩ : ∃ k, n = k + 1 := ⟨n - 1, by omega⟩
  rw [ageN_succ, show k + 1 = m.toNatClampNeg by omega, if_pos hz]
/-- the rates of days p, p + 1 .. , in their order: day and rate -/
def rateL (R : Int32 → Int32) (p : Int32) : Nat → List (Int32 × Int32)
  | 0 => []
  | j + 1 => if (R (p + nI j)).toInt = -2000000000 then rateL R p j else rateL R p j ++ [(p + nI j, R (p + nI j))]
theorem rateL_succ (R : Int32 → Int32) (p : Int32) (j : Nat) : rateL R p (j + 1) = if (R (p + nI j)).toInt = -2000000000 then rateL R p j else rateL R p j ++ [(p + nI j, R (p + nI j))] := rfl
/-- two rows hold a list -/
def HOLDS (d v : Nat → Int32) (n : Int32) (l : List (Int32 × Int32)) : Prop := n.toInt = l.length ∧ ∀ i : Nat, i < l.length → l[i]? = some (d i, v i)
theorem HOLDS_0 {d v : Nat → Int32} {n : Int32} (h : n.toInt = 0) : HOLDS d v n [] := ⟨by rw [h]; rfl, fun i hi => absurd hi (Nat.not_lt_zero i)⟩
theorem HOLDS_s {d v : Nat → Int32} {n n2 x y : Int32} {l : List (Int32 × Int32)} (h : HOLDS d v n l) (h0 : 0 ≤ n.toInt) (hn : n2.toInt = n.toInt + 1) : HOLDS (upd d n.toNatClampNeg x) (upd v n.toNatClampNeg y) n2 (l ++ [(x, y)]) := by
  have hc := i_clamp0 h0
  have hl := h.1
  refine ⟨by rw [List.length_append]; simp; omega, fun i hi => ?_⟩
  rw [List.length_append] at hi
  simp at hi
  unfold upd
  by_cases e : i = n.toNatClampNeg
  · subst e
    rw [if_pos rfl, if_pos rfl, List.getElem?_append_right (by omega), show n.toNatClampNeg - l.length = 0 by omega]
    rfl
  · rw [if_neg e, if_neg e, List.getElem?_append_left (by omega)]
    exact h.2 i (by omega)
theorem rate_step {R : Int32 → Int32} {p L z : Int32} (h0 : 0 ≤ p.toInt) (h1 : p.toInt ≤ L.toInt) (h2 : z.toInt = L.toInt + 1) : rateL R p (z.toInt - p.toInt).toNat = if (R L).toInt = -2000000000 then rateL R p (L.toInt - p.toInt).toNat else rateL R p (L.toInt - p.toInt).toNat ++ [(L, R L)] := by
  have e : (z.toInt - p.toInt).toNat = (L.toInt - p.toInt).toNat + 1 := by omega
  rw [e, rateL_succ, day_at h1 h0]
theorem rateL_len (R : Int32 → Int32) (p : Int32) : ∀ j : Nat, (rateL R p j).length ≤ j
  | 0 => Nat.le_refl 0
  | j + 1 => by
    have h := rateL_len R p j
    rw [rateL_succ]
    split
    · omega
    · rw [List.length_append]; simp; omega
def rXn (f0 f1 f2 sg fr to bv od : Nat → Int32) (n : Int32) : Int32 → Int32 := fun d => rX f0 f1 f2 sg fr to bv od n d (-1)
def minF (f : Nat → Int32) : Nat → Int
  | 0 => 999
  | k + 1 => if (f k).toInt < minF f k then (f k).toInt else minF f k
theorem minF_succ (f : Nat → Int32) (k : Nat) : minF f (k + 1) = if (f k).toInt < minF f k then (f k).toInt else minF f k := rfl
def maxF (f : Nat → Int32) : Nat → Int
  | 0 => -999
  | k + 1 => if maxF f k < (f k).toInt then (f k).toInt else maxF f k
theorem maxF_succ (f : Nat → Int32) (k : Nat) : maxF f (k + 1) = if maxF f k < (f k).toInt then (f k).toInt else maxF f k := rfl
def sumI (f : Nat → Int32) : Nat → Int32
  | 0 => 0
  | k + 1 => sumI f k + f k
theorem sumI_succ (f : Nat → Int32) (k : Nat) : sumI f (k + 1) = sumI f k + f k := rfl
/-- the reference: a row's stretch is filled -/
def FIL (f g : Nat → Int32) (a b : Int) (v : Int32) : Prop := ∀ k : Nat, g k = if a ≤ (k : Int) ∧ (k : Int) < b then v else f k
theorem FIL_0 {f : Nat → Int32} {a b : Int} {v : Int32} (h : b ≤ a) : FIL f f a b v := fun k => by rw [if_neg (by omega)]
theorem FIL_s {f g : Nat → Int32} {a b b2 : Int} {v w i : Int32} (h : FIL f g a b v) (h0 : 0 ≤ i.toInt) (hab : a ≤ b) (hi : i.toInt = b) (hb : b2 = b + 1) (hw : w = v) : FIL f (upd g i.toNatClampNeg w) a b2 v := fun k => by
  have hc := i_clamp0 h0
  unfold upd
  by_cases e : k = i.toNatClampNeg
  · rw [if_pos e, if_pos (by omega), hw]
  · rw [if_neg e, h k]
    by_cases q : a ≤ (k : Int) ∧ (k : Int) < b
    · rw [if_pos q, if_pos (by omega)]
    · rw [if_neg q, if_neg (by omega)]
theorem FIL_c {f g : Nat → Int32} {a b c : Int} {v : Int32} (h : FIL f g a b v) (hc : b = c) : FIL f g a c v := by subst hc; exact h
/-- days go by: holders of days t0 + 1 .. t1 (of the first n places one more) are those of t0 -/
def HD2 (f g : Nat → Int32) (t0 t1 n : Int) : Prop := ∀ p d : Nat, p < 16 → d < 400 → g (400 * p + d) = if t0 < (d : Int) ∧ ((d : Int) ≤ t1 ∨ ((d : Int) = t1 + 1 ∧ (p : Int) < n)) then f (400 * p + t0.toNat) else f (400 * p + d)
theorem HD2_0 {f : Nat → Int32} {t0 t1 : Int} (h : t0 = t1) : HD2 f f t0 t1 0 := fun p d hp hd => by rw [if_neg (by omega)]
theorem HD2_e {f g : Nat → Int32} {t0 t1 t2 n : Int} (h : HD2 f g t0 t1 n) (hn : 16 ≤ n) (ht : t2 = t1 + 1) : HD2 f g t0 t2 0 := fun p d hp hd => by
  rw [h p d hp hd]
  by_cases q : t0 < (d : Int) ∧ ((d : Int) ≤ t1 ∨ ((d : Int) = t1 + 1 ∧ (p : Int) < n))
  · rw [if_pos q, if_pos (by omega)]
  · rw [if_neg q, if_neg (by omega)]
theorem HD2_s {f g : Nat → Int32} {t0 : Int} {t1 : Int32} {n n2 : Int} {i : Nat} {v : Int32} (h : HD2 f g t0 t1.toInt n) (h0 : 0 ≤ t0) (h01 : t0 ≤ t1.toInt) (ht : t1.toInt < 399) (hn : 0 ≤ n ∧ n < 16) (hi : (i : Int) = 400 * n + t1.toInt + 1) (hv : v = g (400 * n + t1.toInt).toNat) (hn2 : n2 = n + 1) : HD2 f (upd g i v) t0 t1.toInt n2 := fun p d hp hd => by
  unfold upd
  have hg := h n.toNat t1.toInt.toNat (by omega) (by omega)
  rw [show 400 * n.toNat + t1.toInt.toNat = (400 * n + t1.toInt).toNat by omega, ← hv] at hg
  by_cases e : 400 * p + d = i
  · rw [if_pos e, if_pos (by omega), hg]
    by_cases q : t0 = t1.toInt
    · rw [if_neg (by omega)]
      congr 1
      omega
    · rw [if_pos (by omega)]
      congr 1
      omega
  · rw [if_neg e, h p d hp hd]
    by_cases q : t0 < (d : Int) ∧ ((d : Int) ≤ t1.toInt ∨ ((d : Int) = t1.toInt + 1 ∧ (p : Int) < n))
    · rw [if_pos q, if_pos (by omega)]
    · rw [if_neg q, if_neg (by omega)]
def agM (f : Nat → Int32) (b : Nat) : Nat → Int
  | 0 => 0
  | d + 1 => if (f (b + (d + 1))).toInt ≠ 0 then 0 else agM f b d + 1
theorem agM_succ (f : Nat → Int32) (b d : Nat) : agM f b (d + 1) = if (f (b + (d + 1))).toInt ≠ 0 then 0 else agM f b d + 1 := rfl
theorem agm_here {f : Nat → Int32} {b n : Nat} (hz : (f (b + n)).toInt ≠ 0) : agM f b n = 0 := by
  cases n with
  | zero => rfl
  | succ d => rw [agM_succ, if_pos hz]
theorem agm_back {f : Nat → Int32} {b : Nat} {p x y : Int32} (h : (0 ≤ x.toInt ∧ agM f b p.toInt.toNat - (p.toInt - x.toInt) = agM f b x.toInt.toNat) ∨ (x.toInt = -1 ∧ agM f b p.toInt.toNat = p.toInt)) (h0 : 0 ≤ x.toInt) (hx : x.toInt ≤ 399) (hz : (f (b + x.toInt.toNat)).toInt = 0) (hy : y.toInt = x.toInt - 1) : (0 ≤ y.toInt ∧ agM f b p.toInt.toNat - (p.toInt - y.toInt) = agM f b y.toInt.toNat) ∨ (y.toInt = -1 ∧ agM f b p.toInt.toNat = p.toInt) := by
  have h1 : agM f b p.toInt.toNat - (p.toInt - x.toInt) = agM f b x.toInt.toNat := by omega
  by_cases q : x.toInt = 0
  · refine Or.inr ⟨by omega, ?_⟩
    rw [q] at h1
    have e : agM f b (0 : Int).toNat = 0 := rfl
    omega
  · obtain ⟨k, hk⟩ : ∃ k : Nat, x.toInt.toNat = k + 1 := ⟨x.toInt.toNat - 1, by omega⟩
    rw [hk, agM_succ, ← hk, if_neg (by omega)] at h1
    refine Or.inl ⟨by omega, ?_⟩
    rw [show y.toInt.toNat = k by omega]
    omega
/-- how many rates differ -/
def chN (A B : Int32 → Int32) (p : Int32) : Nat → Int
  | 0 => 0
  | j + 1 => chN A B p j + (if (A (p + nI j)).toInt = (B (p + nI j)).toInt then 0 else 1)
theorem chN_succ (A B : Int32 → Int32) (p : Int32) (j : Nat) : chN A B p (j + 1) = chN A B p j + (if (A (p + nI j)).toInt = (B (p + nI j)).toInt then 0 else 1) := rfl
theorem chN_step {A B : Int32 → Int32} {p L z : Int32} (h0 : 0 ≤ p.toInt) (h1 : p.toInt ≤ L.toInt) (h2 : z.toInt = L.toInt + 1) : chN A B p (z.toInt - p.toInt).toNat = chN A B p (L.toInt - p.toInt).toNat + (if (A L).toInt = (B L).toInt then 0 else 1) := by
  have e : (z.toInt - p.toInt).toNat = (L.toInt - p.toInt).toNat + 1 := by omega
  rw [e, chN_succ, day_at h1 h0]
def awM (f : Nat → Int32) (b : Nat) : Nat → Int
  | 0 => 0
  | d + 1 => awM f b d + (if (f (b + d)).toInt = -1 then 0 else 1)
theorem awM_succ (f : Nat → Int32) (b d : Nat) : awM f b (d + 1) = awM f b d + (if (f (b + d)).toInt = -1 then 0 else 1) := rfl
def cnW (f : Nat → Int32) : Nat → Int
  | 0 => 0
  | d + 1 => cnW f d + (if (f d).toInt = 0 ∨ (f d).toInt = 1 then 1 else 0)
theorem cnW_succ (f : Nat → Int32) (d : Nat) : cnW f (d + 1) = cnW f d + (if (f d).toInt = 0 ∨ (f d).toInt = 1 then 1 else 0) := rfl
def cnS (f : Nat → Int32) : Nat → Int
  | 0 => 0
  | d + 1 => cnS f d + (if (f d).toInt = 1 then 1 else 0)
theorem cnS_succ (f : Nat → Int32) (d : Nat) : cnS f (d + 1) = cnS f d + (if (f d).toInt = 1 then 1 else 0) := rfl
def cnG (f : Nat → Int32) : Nat → Int
  | 0 => 0
  | d + 1 => cnG f d + (if (f d).toInt = 2 then 1 else 0)
theorem cnG_succ (f : Nat → Int32) (d : Nat) : cnG f (d + 1) = cnG f d + (if (f d).toInt = 2 then 1 else 0) := rfl
def cnK (f : Nat → Int32) (v : Int) : Nat → Int
  | 0 => 0
  | d + 1 => cnK f v d + (if (f d).toInt = v then 1 else 0)
theorem cnK_succ (f : Nat → Int32) (v : Int) (d : Nat) : cnK f v (d + 1) = cnK f v d + (if (f d).toInt = v then 1 else 0) := rfl
def ask3 (a b c : Int32) : Nat → Int32
  | 0 => a
  | 1 => b
  | _ => c
theorem ask_u {f : Nat → Int32} {a b c : Int32} : ∀ k : Nat, k < 3 → upd (upd (upd f (0 : Int32).toNatClampNeg a) (1 : Int32).toNatClampNeg b) (2 : Int32).toNatClampNeg c k = ask3 a b c k := by
  intro k hk
  have e0 : (0 : Int32).toNatClampNeg = 0 := by decide
  have e1 : (1 : Int32).toNatClampNeg = 1 := by decide
  have e2 : (2 : Int32).toNatClampNeg = 2 := by decide
  rw [e0, e1, e2]
  unfold upd
  rcases (show k = 0 ∨ k = 1 ∨ k = 2 by omega) with rfl | rfl | rfl
  · rfl
  · rfl
  · rfl
/-- the holders of places g 0, g 1 .. on day t are v -/
def hseq (f g : Nat → Int32) (t v : Int32) : Nat → Nat → Int32
  | 0 => f
  | i + 1 => upd (hseq f g t v i) (400 * g i + t).toNatClampNeg v
theorem hseq_succ (f g : Nat → Int32) (t v : Int32) (i : Nat) : hseq f g t v (i + 1) = upd (hseq f g t v i) (400 * g i + t).toNatClampNeg v := rfl
theorem hseq_congr {f g g' : Nat → Int32} {t v : Int32} {m : Nat} (h : ∀ k : Nat, k < m → g k = g' k) : ∀ n : Nat, n ≤ m → hseq f g t v n = hseq f g' t v n
  | 0, _ => rfl
  | n + 1, hn => by rw [hseq_succ, hseq_succ, hseq_congr h n (by omega), h n (by omega)]
def cseq (f g : Nat → Int32) (s : Int32) : Nat → Nat → Int32
  | 0 => f
  | i + 1 => upd (cseq f g s i) (3 * (s).toNatClampNeg + i) (g i)
theorem cseq_succ (f g : Nat → Int32) (s : Int32) (i : Nat) : cseq f g s (i + 1) = upd (cseq f g s i) (3 * (s).toNatClampNeg + i) (g i) := rfl
theorem cseq_congr {f g g' : Nat → Int32} {s : Int32} {m : Nat} (h : ∀ k : Nat, k < m → g k = g' k) : ∀ n : Nat, n ≤ m → cseq f g s n = cseq f g' s n
  | 0, _ => rfl
  | n + 1, hn => by rw [cseq_succ, cseq_succ, cseq_congr h n (by omega), h n (by omega)]
theorem u_at {f : Nat → Int32} {i : Nat} {v : Int32} : upd f i v i = v := by unfold upd; rw [if_pos rfl]
theorem u_ne {f : Nat → Int32} {i k : Nat} {v : Int32} (h : k ≠ i) : upd f i v k = f k := by unfold upd; rw [if_neg h]
/-! ===== rows in their order ===== -/
def insA (r : Int32) : Nat → (Nat → Int32) → Nat → Int32
  | 0, f => upd f 0 r
  | k + 1, f => if r.toInt < (f k).toInt then insA r k (upd f (k + 1) (f k)) else upd f (k + 1) r
theorem insA_0 (r : Int32) (f : Nat → Int32) : insA r 0 f = upd f 0 r := rfl
theorem insA_s (r : Int32) (k : Nat) (f : Nat → Int32) : insA r (k + 1) f = if r.toInt < (f k).toInt then insA r k (upd f (k + 1) (f k)) else upd f (k + 1) r := rfl
def srtA (v f : Nat → Int32) : Nat → Nat → Int32
  | 0 => f
  | i + 1 => insA (v i) i (srtA v f i)
theorem srtA_s (v f : Nat → Int32) (i : Nat) : srtA v f (i + 1) = insA (v i) i (srtA v f i) := rfl
theorem insA_above {r : Int32} : ∀ (k : Nat) (f : Nat → Int32) (j : Nat), k < j → insA r k f j = f j
  | 0, f, j, h => by rw [insA_0, u_ne (by omega)]
  | k + 1, f, j, h => by
    rw [insA_s]
    split
    · rw [insA_above k _ j (by omega), u_ne (by omega)]
    · rw [u_ne (by omega)]
theorem insA_congr {r : Int32} : ∀ (k : Nat) (f g : Nat → Int32), (∀ i : Nat, i < k → f i = g i) → ∀ i : Nat, i ≤ k → insA r k f i = insA r k g i
  | 0, f, g, _, i, hi => by rw [insA_0, insA_0, show i = 0 by omega, u_at, u_at]
  | k + 1, f, g, h, i, hi => by
    rw [insA_s, insA_s, ← h k (by omega)]
    split
    · by_cases e : i = k + 1
      · subst e
        rw [insA_above k _ _ (by omega), insA_above k _ _ (by omega), u_at, u_at]
      · exact insA_congr k _ _ (fun j hj => by rw [u_ne (by omega), u_ne (by omega)]; exact h j (by omega)) i (by omega)
    · by_cases e : i = k + 1
      · subst e
        rw [u_at, u_at]
      · rw [u_ne e, u_ne e]
        exact h i (by omega)
theorem srtA_congr {v w f g : Nat → Int32} : ∀ (n : Nat), (∀ i : Nat, i < n → v i = w i) → ∀ i : Nat, i < n → srtA v f n i = srtA w g n i
  | 0, _, i, hi => by omega
  | n + 1, h, i, hi => by
    rw [srtA_s, srtA_s, h n (by omega)]
    exact insA_congr n _ _ (srtA_congr n (fun j hj => h j (by omega))) i (by omega)
def SRT (f : Nat → Int32) (n : Nat) : Prop := ∀ i : Nat, i + 1 < n → (f i).toInt ≤ (f (i + 1)).toInt
theorem SRT_le {f : Nat → Int32} {n : Nat} (h : SRT f n) : ∀ j : Nat, j < n → (f 0).toInt ≤ (f j).toInt
  | 0, _ => Int.le_refl _
  | j + 1, hj => Int.le_trans (SRT_le h j (by omega)) (h j hj)
theorem insA_srt {r : Int32} : ∀ (k : Nat) (f : Nat → Int32), SRT f k → SRT (insA r k f) (k + 1) ∧ (k = 0 → (insA r k f 0).toInt = r.toInt ∧ (insA r k f k).toInt = r.toInt) ∧ (∀ j : Nat, k = j + 1 → (insA r k f k).toInt = (if r.toInt < (f j).toInt then (f j).toInt else r.toInt) ∧ (insA r k f 0).toInt = (if r.toInt < (f 0).toInt then r.toInt else (f 0).toInt))
  | 0, f, _ => by
    refine ⟨fun i hi => by omega, fun _ => ?_, fun j hj => by omega⟩
    rw [insA_0, u_at]
    exact ⟨rfl, rfl⟩
  | k + 1, f, h => by
    have hk : SRT f k := fun i hi => h i (by omega)
    have hk' : SRT (upd f (k + 1) (f k)) k := fun i hi => by
      rw [u_ne (by omega), u_ne (by omega)]; exact h i (by omega)
    obtain ⟨a1, a2, a3⟩ := insA_srt (r := r) k (upd f (k + 1) (f k)) hk'
    rw [insA_s]
    by_cases c : r.toInt < (f k).toInt
    · rw [if_pos c]
      have top : (insA r k (upd f (k + 1) (f k)) (k + 1)).toInt = (f k).toInt := by rw [insA_above k _ _ (by omega), u_at]
      refine ⟨fun i hi => ?_, fun e => by omega, fun j hj => ?_⟩
      · by_cases e : i + 1 = k + 1
        · have e2 : i = k := by omega
          subst e2
          rw [top]
          rcases Nat.eq_zero_or_pos i with z | z
          · rw [z]
            have := (a2 z).1
            rw [z] at this c
            omega
          · obtain ⟨m, rfl⟩ : ∃ m, i = m + 1 := ⟨i - 1, by omega⟩
            have b := (a3 m rfl).1
            rw [u_ne (by omega)] at b
            have g := h m (by omega)
            rw [b]
            split <;> omega
        · exact a1 i (by omega)
      · have e : j = k := by omega
        subst e
        refine ⟨by rw [top, if_pos c], ?_⟩
        rcases Nat.eq_zero_or_pos j with z | z
        · subst z
          rw [if_pos c]
          exact (a2 rfl).1
        · obtain ⟨m, rfl⟩ : ∃ m, j = m + 1 := ⟨j - 1, by omega⟩
          have b := (a3 m rfl).2
          rw [u_ne (by omega)] at b
          exact b
    · rw [if_neg c]
      refine ⟨fun i hi => ?_, fun e => by omega, fun j hj => ?_⟩
      · rw [u_ne (show i ≠ k + 1 by omega)]
        by_cases e : i + 1 = k + 1
        · rw [e, u_at, show i = k by omega]; omega
        · rw [u_ne e]; exact h i (by omega)
      · have e : j = k := by omega
        subst e
        rw [u_at, u_ne (by omega), if_neg c]
        refine ⟨rfl, ?_⟩
        have g := SRT_le h j (by omega)
        rw [if_neg (by omega)]
theorem srtA_srt {v f : Nat → Int32} : ∀ n : Nat, SRT (srtA v f n) n
  | 0 => fun i hi => by omega
  | n + 1 => (insA_srt n _ (srtA_srt n)).1
theorem srtA_min {v f : Nat → Int32} : ∀ n : Nat, (∀ i : Nat, i < n + 1 → (v i).toInt ≤ 999) → (srtA v f (n + 1) 0).toInt = minF v (n + 1)
  | 0, h => by
    have := h 0 (by omega)
    rw [srtA_s, minF_succ]
    show (insA (v 0) 0 _ 0).toInt = if (v 0).toInt < 999 then (v 0).toInt else 999
    rw [insA_0, u_at]
    split <;> omega
  | n + 1, h => by
    have ih := srtA_min (v := v) (f := f) n (fun i hi => h i (by omega))
    rw [srtA_s, minF_succ, ((insA_srt (r := v (n + 1)) (n + 1) _ (srtA_srt (v := v) (f := f) (n + 1))).2.2 n rfl).2, ih]
theorem srtA_max {v f : Nat → Int32} : ∀ n : Nat, (∀ i : Nat, i < n + 1 → -999 ≤ (v i).toInt) → (srtA v f (n + 1) n).toInt = maxF v (n + 1)
  | 0, h => by
    have := h 0 (by omega)
    rw [srtA_s, maxF_succ]
    show (insA (v 0) 0 _ 0).toInt = if -999 < (v 0).toInt then (v 0).toInt else -999
    rw [insA_0, u_at]
    split <;> omega
  | n + 1, h => by
    have ih := srtA_max (v := v) (f := f) n (fun i hi => h i (by omega))
    rw [srtA_s, maxF_succ, ((insA_srt (r := v (n + 1)) (n + 1) _ (srtA_srt (v := v) (f := f) (n + 1))).2.2 n rfl).1, ih]
    split
    · rw [if_neg (by omega)]
    · split <;> omega
theorem insA_go {g : Nat → Int32} {r v : Int32} {k j : Nat} (hk : k = j + 1) (hv : v = g j) (hc : r.toInt < (g j).toInt) : insA r j (upd g k v) = insA r k g := by
  subst hk
  rw [hv, insA_s, if_pos hc]
theorem insA_end {g : Nat → Int32} {r : Int32} {k : Nat} (h : k = 0 ∨ ∃ j : Nat, k = j + 1 ∧ ¬ r.toInt < (g j).toInt) : upd g k r = insA r k g := by
  rcases h with h | ⟨j, h, hc⟩
  · subst h; rfl
  · subst h
    rw [insA_s, if_neg hc]
theorem srtA_ext {v w f : Nat → Int32} : ∀ (n : Nat), (∀ i : Nat, i < n → v i = w i) → srtA v f n = srtA w f n
  | 0, _ => rfl
  | n + 1, h => by rw [srtA_s, srtA_s, srtA_ext n (fun i hi => h i (by omega)), h n (by omega)]
/-- the farthest from the middle so far, and its day -/
def farF (d v : Nat → Int32) (m b d0 : Int32) : Nat → Int32 × Int32
  | 0 => (b, d0)
  | k + 1 => if (farF d v m b d0 k).1.toInt < (szF (v k - m)).toInt then (szF (v k - m), d k) else farF d v m b d0 k
theorem farF_s (d v : Nat → Int32) (m b d0 : Int32) (k : Nat) : farF d v m b d0 (k + 1) = if (farF d v m b d0 k).1.toInt < (szF (v k - m)).toInt then (szF (v k - m), d k) else farF d v m b d0 k := rfl
theorem farF_rel {d v d' v' : Nat → Int32} {m b : Int32} : ∀ n : Nat, (∀ i : Nat, i < n → d i = d' i ∧ v i = v' i ∧ 0 ≤ (d i).toInt) → (farF d v m b (-1) n).1 = (farF d' v' m b (-4) n).1 ∧ (((farF d v m b (-1) n).2.toInt = -1 ∧ (farF d' v' m b (-4) n).2.toInt = -4) ∨ ((farF d v m b (-1) n).2 = (farF d' v' m b (-4) n).2 ∧ 0 ≤ (farF d v m b (-1) n).2.toInt))
  | 0, _ => ⟨rfl, Or.inl ⟨by show (-1 : Int32).toInt = -1; decide, by show (-4 : Int32).toInt = -4; decide⟩⟩
  | n + 1, h => by
    obtain ⟨a, b⟩ := farF_rel (m := m) (b := b) n (fun i hi => h i (by omega))
    obtain ⟨h1, h2, h3⟩ := h n (by omega)
    rw [farF_s, farF_s, ← a, h1, h2]
    split
    · exact ⟨rfl, Or.inr ⟨rfl, by rw [← h1]; exact h3⟩⟩
    · exact ⟨a, b⟩
theorem abs_sz {x z : Int32} (e : z = if 0 ≤ x then x else 0 - x) : z = szF x := by
  subst e
  unfold szF
  by_cases h : x.toInt < 0
  · rw [if_pos h, if_neg (fun q => by have q2 := Int32.le_iff_toInt_le.mp q; have h0 : (0 : Int32).toInt = 0 := (by decide); omega), Int32.zero_sub]
  · rw [if_neg h, if_pos (Int32.le_iff_toInt_le.mpr (by have h0 : (0 : Int32).toInt = 0 := (by decide); omega))]
def dL (l : List (Int32 × Int32)) (i : Nat) : Int32 := (l.getD i (0, 0)).1
def vL (l : List (Int32 × Int32)) (i : Nat) : Int32 := (l.getD i (0, 0)).2
theorem HOLDS_dv {d v : Nat → Int32} {n : Int32} {l : List (Int32 × Int32)} (h : HOLDS d v n l) : ∀ i : Nat, i < l.length → d i = dL l i ∧ v i = vL l i := fun i hi => by
  have h1 := h.2 i hi
  unfold dL vL
  rw [List.getD_eq_getElem?_getD, h1]
  exact ⟨rfl, rfl⟩
theorem farF_congr {d v d' v' : Nat → Int32} {m b d0 : Int32} : ∀ n : Nat, (∀ i : Nat, i < n → d i = d' i ∧ v i = v' i) → farF d v m b d0 n = farF d' v' m b d0 n
  | 0, _ => rfl
  | n + 1, h => by rw [farF_s, farF_s, farF_congr n (fun i hi => h i (by omega)), (h n (by omega)).1, (h n (by omega)).2]
def midL (l : List (Int32 × Int32)) : Int32 := srtA (vL l) (fun _ => 0) l.length ((l.length - 1) / 2)
def jmpR (l : List (Int32 × Int32)) (b : Int32) : Int := if l.length = 0 then -4 else if (farF (dL l) (vL l) (midL l) b (-1) l.length).2.toInt < 0 then -4 else (farF (dL l) (vL l) (midL l) b (-1) l.length).2.toInt
theorem half_ix {n : Int32} {m : Nat} (h : n.toInt = m) (hm : 1 ≤ m) : ((n - 1) / 2).toNatClampNeg = (m - 1) / 2 := by
  have h1 : (1 : Int32).toInt = 1 := by decide
  have h2 : (2 : Int32).toInt = 2 := by decide
  have hb := i_hi n
  have e1 : (n - 1).toInt = (m : Int) - 1 := g_sub h h1 (by omega) (by omega)
  have e2 : ((n - 1) / 2).toInt = ((m : Int) - 1) / 2 := g_div e1 h2 (by omega) (by decide)
  have c := i_clamp0 (x := (n - 1) / 2) (by omega)
  omega
theorem mid_of {d v s s0 : Nat → Int32} {n : Int32} {l : List (Int32 × Int32)} (hH : HOLDS d v n l) (hn : 1 ≤ n.toInt) (hs : s = srtA v s0 n.toNatClampNeg) : s ((n - 1) / 2).toNatClampNeg = midL l := by
  have hc := i_clamp0 (x := n) (by omega)
  have hl := hH.1
  have e : n.toNatClampNeg = l.length := by omega
  rw [hs, half_ix hl (by omega), e]
  exact srtA_congr l.length (fun i hi => (HOLDS_dv hH i hi).2) _ (by omega)
theorem jmp_of {d v s s0 : Nat → Int32} {n b best r : Int32} {l : List (Int32 × Int32)} (hH : HOLDS d v n l) (hn : 0 ≤ n.toInt) (hs : s = srtA v s0 n.toNatClampNeg) (hb : best = (farF d v (s ((n - 1) / 2).toNatClampNeg) b (-1) n.toNatClampNeg).2) (hr : (best.toInt < 0 ∧ r.toInt = -4) ∨ (0 ≤ best.toInt ∧ r = best)) : r.toInt = jmpR l b := by
  have hc := i_clamp0 hn
  have hl := hH.1
  unfold jmpR
  by_cases z : l.length = 0
  · rw [if_pos z]
    have e : n.toNatClampNeg = 0 := by omega
    rw [e] at hb
    have e2 : best = -1 := hb
    have e3 : (-1 : Int32).toInt = -1 := by decide
    rw [e2] at hr
    omega
  · rw [if_neg z]
    have e : n.toNatClampNeg = l.length := by omega
    rw [mid_of hH (by omega) hs, e, farF_congr l.length (HOLDS_dv hH)] at hb
    rw [← hb]
    rcases hr with ⟨h1, h2⟩ | ⟨h1, h2⟩
    · rw [if_pos h1, h2]
    · rw [if_neg (by omega), h2]
theorem jmp_ofX {d v : Nat → Int32} {n b m r : Int32} {l : List (Int32 × Int32)} (hH : HOLDS d v n l) (hn : 0 ≤ n.toInt) (hd : ∀ i : Nat, i < l.length → 0 ≤ (d i).toInt) (hr : (n.toInt = 0 ∧ r.toInt = -4) ∨ (1 ≤ n.toInt ∧ m = midL l ∧ r = (farF d v m b (-4) n.toNatClampNeg).2)) : r.toInt = jmpR l b := by
  have hc := i_clamp0 hn
  have hl := hH.1
  unfold jmpR
  rcases hr with ⟨h1, h2⟩ | ⟨h1, h2, h3⟩
  · rw [if_pos (by omega), h2]
  · rw [if_neg (by omega)]
    have e : n.toNatClampNeg = l.length := by omega
    rw [h2, e] at h3
    have hdv := HOLDS_dv hH
    have hf := farF_rel (d := dL l) (v := vL l) (d' := d) (v' := v) (m := midL l) (b := b) l.length (fun i hi => ⟨(hdv i hi).1.symm, (hdv i hi).2.symm, by rw [← (hdv i hi).1]; exact hd i hi⟩)
    rw [← h3] at hf
    rcases hf.2 with ⟨g1, g2⟩ | ⟨g1, g2⟩
    · rw [if_pos (by omega), g2]
    · rw [if_neg (by omega), g1]
theorem rateL_congr {A B : Int32 → Int32} {p : Int32} : ∀ n : Nat, (∀ j : Nat, j < n → A (p + nI j) = B (p + nI j)) → rateL A p n = rateL B p n
  | 0, _ => rfl
  | n + 1, h => by rw [rateL_succ, rateL_succ, rateL_congr n (fun j hj => h j (by omega)), h n (by omega)]
/-! ===== the nine sums ===== -/
abbrev S9 : Type := Int64 × Int64 × Int64 × Int64 × Int64 × Int64 × Int64 × Int64 × Int64
def add9 (s : S9) (r w a : Int64) : S9 := (s.1 + 1, s.2.1 + r, s.2.2.1 + w, s.2.2.2.1 + a, s.2.2.2.2.1 + w * w, s.2.2.2.2.2.1 + a * a, s.2.2.2.2.2.2.1 + w * a, s.2.2.2.2.2.2.2.1 + w * r, s.2.2.2.2.2.2.2.2 + a * r)
def step9 (wm ag : Int32 → Int32) (nw : Int) (s : S9) (x : Int32 × Int32) : S9 := if (wm x.1).toInt = nw then s else add9 s x.2.toInt64 (wm x.1).toInt64 (ag x.1).toInt64
def fold9 (wm ag : Int32 → Int32) (nw : Int) (l : List (Int32 × Int32)) : S9 := l.foldl (step9 wm ag nw) (0, 0, 0, 0, 0, 0, 0, 0, 0)
theorem fold9_snoc (wm ag : Int32 → Int32) (nw : Int) (l : List (Int32 × Int32)) (x : Int32 × Int32) : fold9 wm ag nw (l ++ [x]) = step9 wm ag nw (fold9 wm ag nw l) x := by
  unfold fold9
  rw [List.foldl_append]
  rfl
theorem fold9_step {wm ag : Int32 → Int32} {nw : Int} {R : Int32 → Int32} {p L z : Int32} (h0 : 0 ≤ p.toInt) (h1 : p.toInt ≤ L.toInt) (h2 : z.toInt = L.toInt + 1) : fold9 wm ag nw (rateL R p (z.toInt - p.toInt).toNat) = if (R L).toInt = -2000000000 then fold9 wm ag nw (rateL R p (L.toInt - p.toInt).toNat) else step9 wm ag nw (fold9 wm ag nw (rateL R p (L.toInt - p.toInt).toNat)) (L, R L) := by
  rw [rate_step h0 h1 h2]
  split
  · rfl
  · rw [fold9_snoc]
theorem l_eqc {x : Int32} {z c : Int64} {n : Int} (e : x.toInt64 = z) (hc : c.toInt = n) : z = c ↔ x.toInt = n := by
  subst e
  constructor
  · intro h
    have h2 := congrArg Int64.toInt h
    rw [Int32.toInt_toInt64, hc] at h2
    exact h2
  · intro h
    exact Int64.toInt_inj.mp (by rw [Int32.toInt_toInt64, hc, h])
def wmF (k mk ws : Nat → Int32) (p d : Int32) : Int32 := if (k p.toNatClampNeg).toInt = 1 then mk p.toNatClampNeg else ws d.toNatClampNeg
def agI (f : Nat → Int32) (b : Nat) (d : Int32) : Int32 := nI (agM f b d.toInt.toNat).toNat
theorem agM_r (f : Nat → Int32) (b : Nat) : ∀ d : Nat, 0 ≤ agM f b d ∧ agM f b d ≤ d
  | 0 => ⟨Int.le_refl 0, Int.le_refl 0⟩
  | d + 1 => by
    have h := agM_r f b d
    rw [agM_succ]
    split <;> omega
theorem agI_of {f : Nat → Int32} {b : Nat} {r d : Int32} (h : r.toInt = agM f b d.toInt.toNat) (hd : 0 ≤ d.toInt ∧ d.toInt ≤ 399) : r = agI f b d := by
  have h1 := agM_r f b d.toInt.toNat
  unfold agI
  exact i_eq.mpr (by rw [nI_toInt (by omega)]; omega)
def agX (f : Nat → Int32) (d : Int32) : Int32 := nI (ageN f d.toInt.toNat).toNat
theorem ageN_r (f : Nat → Int32) : ∀ d : Nat, 0 ≤ ageN f d ∧ ageN f d ≤ d
  | 0 => ⟨Int.le_refl 0, Int.le_refl 0⟩
  | d + 1 => by
    have h := ageN_r f d
    rw [ageN_succ]
    split <;> omega
theorem agX_of {f : Nat → Int32} {r d : Int32} (h : r.toInt = ageN f d.toInt.toNat) (hd : 0 ≤ d.toInt ∧ d.toInt ≤ 399) : r = agX f d := by
  have h1 := ageN_r f d.toInt.toNat
  unfold agX
  exact i_eq.mpr (by rw [nI_toInt (by omega)]; omega)
theorem fold9_take {wm ag : Int32 → Int32} {nw : Int} {d v : Nat → Int32} {n : Int32} {l : List (Int32 × Int32)} (h : HOLDS d v n l) {i : Nat} (hi : (i : Int) < n.toInt) : fold9 wm ag nw (l.take (i + 1)) = step9 wm ag nw (fold9 wm ag nw (l.take i)) (d i, v i) := by
  have hl := h.1
  rw [List.take_succ, h.2 i (by omega)]
  exact fold9_snoc wm ag nw (l.take i) (d i, v i)
theorem fold9_all {wm ag : Int32 → Int32} {nw : Int} {d v : Nat → Int32} {n : Int32} {l : List (Int32 × Int32)} (h : HOLDS d v n l) {i : Nat} (hi : n.toInt ≤ (i : Int)) : fold9 wm ag nw (l.take i) = fold9 wm ag nw l := by
  have hl := h.1
  rw [List.take_of_length_le (by omega)]
theorem step9_p {wm ag : Int32 → Int32} {nw : Int} {s : S9} {x : Int32 × Int32} (h : (wm x.1).toInt = nw) : step9 wm ag nw s x = s := by
  unfold step9
  exact if_pos h
theorem step9_n {wm ag : Int32 → Int32} {nw : Int} {s : S9} {x : Int32 × Int32} (h : (wm x.1).toInt ≠ nw) : step9 wm ag nw s x = add9 s x.2.toInt64 (wm x.1).toInt64 (ag x.1).toInt64 := by
  unfold step9
  exact if_neg h
/-- both sides' sums -/
theorem fold9_rel {wm ag wm' ag' : Int32 → Int32} {nw nw' : Int} : ∀ (l : List (Int32 × Int32)) (s : S9), (∀ x ∈ l, (((wm x.1).toInt = nw ∧ (wm' x.1).toInt = nw') ∨ ((wm x.1).toInt ≠ nw ∧ (wm' x.1).toInt ≠ nw' ∧ wm x.1 = wm' x.1)) ∧ ag x.1 = ag' x.1) → l.foldl (step9 wm ag nw) s = l.foldl (step9 wm' ag' nw') s := by
  intro l
  induction l with
  | nil => intro s _; rw [List.foldl_nil, List.foldl_nil]
  | cons x l ih =>
    intro s h
    have hx := h x (List.mem_cons_self)
    rw [List.foldl_cons, List.foldl_cons]
    have e : step9 wm ag nw s x = step9 wm' ag' nw' s x := by
      rcases hx.1 with ⟨a, b⟩ | ⟨a, b, c⟩
      · exact (step9_p a).trans (step9_p b).symm
      · refine (step9_n a).trans (Eq.trans ?_ (step9_n b).symm)
        rw [c, hx.2]
    rw [e]
    exact ih _ (fun y hy => h y (List.mem_cons_of_mem _ hy))
/-- the days of a list of rates -/
theorem rateL_days {R : Int32 → Int32} {p : Int32} : ∀ (n : Nat) (x : Int32 × Int32), x ∈ rateL R p n → ∃ j : Nat, j < n ∧ x.1 = p + nI j
  | 0, x, h => by cases h
  | n + 1, x, h => by
    rw [rateL_succ] at h
    split at h
    · obtain ⟨j, h1, h2⟩ := rateL_days n x h
      exact ⟨j, by omega, h2⟩
    · rcases List.mem_append.mp h with h | h
      · obtain ⟨j, h1, h2⟩ := rateL_days n x h
        exact ⟨j, by omega, h2⟩
      · rw [List.mem_singleton] at h
        exact ⟨n, by omega, by rw [h]⟩
/-- what the class makes of the nine sums: terms, divisor, by warmth, by age -/
def solX (s : S9) : Int32 × Int64 × Int64 × Int64 := if 0 < ((s.1 * s.2.2.2.2.1 - s.2.2.1 * s.2.2.1) * (s.1 * s.2.2.2.2.2.1 - s.2.2.2.1 * s.2.2.2.1) - (s.1 * s.2.2.2.2.2.2.1 - s.2.2.1 * s.2.2.2.1) * (s.1 * s.2.2.2.2.2.2.1 - s.2.2.1 * s.2.2.2.1)).toInt then (3, (s.1 * s.2.2.2.2.1 - s.2.2.1 * s.2.2.1) * (s.1 * s.2.2.2.2.2.1 - s.2.2.2.1 * s.2.2.2.1) - (s.1 * s.2.2.2.2.2.2.1 - s.2.2.1 * s.2.2.2.1) * (s.1 * s.2.2.2.2.2.2.1 - s.2.2.1 * s.2.2.2.1), (s.1 * s.2.2.2.2.2.2.2.1 - s.2.2.1 * s.2.1) * (s.1 * s.2.2.2.2.2.1 - s.2.2.2.1 * s.2.2.2.1) - (s.1 * s.2.2.2.2.2.2.2.2 - s.2.2.2.1 * s.2.1) * (s.1 * s.2.2.2.2.2.2.1 - s.2.2.1 * s.2.2.2.1), (s.1 * s.2.2.2.2.2.2.2.2 - s.2.2.2.1 * s.2.1) * (s.1 * s.2.2.2.2.1 - s.2.2.1 * s.2.2.1) - (s.1 * s.2.2.2.2.2.2.2.1 - s.2.2.1 * s.2.1) * (s.1 * s.2.2.2.2.2.2.1 - s.2.2.1 * s.2.2.2.1)) else if 0 < (s.1 * s.2.2.2.2.1 - s.2.2.1 * s.2.2.1).toInt then (2, s.1 * s.2.2.2.2.1 - s.2.2.1 * s.2.2.1, s.1 * s.2.2.2.2.2.2.2.1 - s.2.2.1 * s.2.1, 0) else if 0 < (s.1 * s.2.2.2.2.2.1 - s.2.2.2.1 * s.2.2.2.1).toInt then (4, s.1 * s.2.2.2.2.2.1 - s.2.2.2.1 * s.2.2.2.1, 0, s.1 * s.2.2.2.2.2.2.2.2 - s.2.2.2.1 * s.2.1) else (1, 1, 0, 0)
def frmM (s : S9) : Int := if thrF s.1 s.2.2.1 s.2.2.2.1 s.2.2.2.2.1 s.2.2.2.2.2.2.1 s.2.2.2.2.2.1 = 0 then (if twoF s.1 s.2.2.1 s.2.2.2.2.1 = 0 then (if twoF s.1 s.2.2.2.1 s.2.2.2.2.2.1 = 0 then 1 else 4) else 2) else 3
theorem lc_gtI {x y : Int64} (h : 0 < lg_cmp x y ∨ ¬ lg_cmp x y ≤ 0) : y.toInt < x.toInt := by
  rcases (show y.toInt < x.toInt ∨ x.toInt ≤ y.toInt by omega) with g | g
  · exact g
  · exfalso
    have h1 : ¬ x > y := fun k => by have := Int64.lt_iff_toInt_lt.mp k; omega
    unfold lg_cmp at h
    rw [if_neg h1] at h
    split at h
    · revert h; decide
    · revert h; decide
theorem lc_leI {x y : Int64} (h : lg_cmp x y ≤ 0 ∨ ¬ 0 < lg_cmp x y) : x.toInt ≤ y.toInt := by
  rcases (show y.toInt < x.toInt ∨ x.toInt ≤ y.toInt by omega) with g | g
  · exfalso
    have h1 : x > y := Int64.lt_iff_toInt_lt.mpr g
    unfold lg_cmp at h
    rw [if_pos h1] at h
    revert h; decide
  · exact g
theorem lc_ltI {x y : Int64} (h : lg_cmp x y < 0 ∨ ¬ 0 ≤ lg_cmp x y) : x.toInt < y.toInt := by
  rcases (show x.toInt < y.toInt ∨ y.toInt ≤ x.toInt by omega) with g | g
  · exact g
  · exfalso
    unfold lg_cmp at h
    by_cases h1 : x > y
    · rw [if_pos h1] at h
      revert h; decide
    · rw [if_neg h1] at h
      have e : x = y := by
        have h2 : ¬ y.toInt < x.toInt := fun k => h1 (Int64.lt_iff_toInt_lt.mpr k)
        exact Int64.toInt_inj.mp (by omega)
      rw [if_pos e] at h
      revert h; decide
theorem lc_geI {x y : Int64} (h : 0 ≤ lg_cmp x y ∨ ¬ lg_cmp x y < 0) : y.toInt ≤ x.toInt := by
  rcases (show x.toInt < y.toInt ∨ y.toInt ≤ x.toInt by omega) with g | g
  · exfalso
    have h1 : ¬ x > y := fun k => by have := Int64.lt_iff_toInt_lt.mp k; omega
    have h2 : ¬ x = y := fun k => by subst k; omega
    unfold lg_cmp at h
    rw [if_neg h1, if_neg h2] at h
    revert h; decide
  · exact g
theorem fl_eq {x y : Int} (hy : 0 < y) : x.tdiv y = x / y + (if 0 ≤ x ∨ y ∣ x then 0 else 1) := by
  rw [Int.tdiv_eq_ediv, Int.sign_eq_one_of_pos hy]
theorem fl_exact {x y : Int} (hy : 0 < y) (h : x.tdiv y * y = x) : x.tdiv y = x / y := by
  rw [fl_eq hy, if_pos (Or.inr ⟨x.tdiv y, by rw [Int.mul_comm]; exact h.symm⟩), Int.add_zero]
theorem fl_down {x y : Int} (hy : 0 < y) (hx : x < 0) (h : x.tdiv y * y ≠ x) : x.tdiv y - 1 = x / y := by
  have hn : ¬ (0 ≤ x ∨ y ∣ x) := by
    intro g
    have e := fl_eq (x := x) hy
    rw [if_pos g, Int.add_zero] at e
    rcases g with g | g
    · omega
    · rw [e] at h
      exact h (Int.ediv_mul_cancel g)
  have e := fl_eq (x := x) hy
  rw [if_neg hn] at e
  omega
theorem xor_sgn (x y : Int32) : (x ^^^ y).toInt < 0 ↔ ¬ (x.toInt < 0 ↔ y.toInt < 0) := by
  have h1 := BitVec.msb_eq_toInt (x := x.toBitVec ^^^ y.toBitVec)
  rw [BitVec.msb_xor, BitVec.msb_eq_toInt, BitVec.msb_eq_toInt] at h1
  have h2 : (decide (x.toInt < 0) ^^ decide (y.toInt < 0)) = decide ((x ^^^ y).toInt < 0) := h1
  clear h1
  generalize (x ^^^ y).toInt = u at h2 ⊢
  generalize x.toInt = v at h2 ⊢
  generalize y.toInt = w at h2 ⊢
  by_cases a : v < 0 <;> by_cases b : w < 0 <;> by_cases c : u < 0 <;> simp_all <;> omega
theorem fdv_q {a b : Int32} (hb : 0 < b.toInt) : (a / b).toInt = a.toInt.tdiv b.toInt := by
  rw [Int32.toInt_div]
  have h := Int.natAbs_tdiv_le_natAbs a.toInt b.toInt
  have l := i_lo a
  have u := i_hi a
  by_cases g : a.toInt.tdiv b.toInt ≤ 2147483647
  · exact i_bmod (by omega) g
  · exfalso
    have e := fl_eq (x := a.toInt) hb
    by_cases k : 0 ≤ a.toInt ∨ b.toInt ∣ a.toInt
    · rw [if_pos k] at e
      have : a.toInt / b.toInt < 2147483648 := Int.ediv_lt_of_lt_mul hb (by have := Int.mul_le_mul_of_nonneg_left (show (1 : Int) ≤ b.toInt by omega) (show (0 : Int) ≤ 2147483648 by omega); omega)
      omega
    · rw [if_neg k] at e
      have hn : a.toInt < 0 := by omega
      have : a.toInt / b.toInt < 0 := Int.ediv_lt_of_lt_mul hb (by omega)
      omega
theorem fdv_a {a b : Int32} (hb : 0 < b.toInt) (h : 0 ≤ (a ^^^ b).toInt) : (a / b).toInt = a.toInt / b.toInt := by
  have hs := xor_sgn a b
  rw [fdv_q hb, fl_eq hb, if_pos (Or.inl (by omega)), Int.add_zero]
theorem tm_lo {a b : Int} (hb : 0 < b) (ha : a < 0) : a ≤ a.tdiv b * b := by
  have e := fl_eq (x := a) hb
  by_cases k : 0 ≤ a ∨ b ∣ a
  · rw [if_pos k, Int.add_zero] at e
    rw [e]
    rcases k with k | k
    · omega
    · rw [Int.ediv_mul_cancel k]; exact Int.le_refl _
  · rw [if_neg k] at e
    rw [e]
    exact Int.le_of_lt (Int.lt_ediv_add_one_mul_self a hb)
theorem fdv_mul {a b : Int32} (hb : 0 < b.toInt) : ((a / b) * b).toInt = a.toInt.tdiv b.toInt * b.toInt := by
  have hm := Int.tdiv_mul_add_tmod a.toInt b.toInt
  have l := i_lo a
  have u := i_hi a
  rw [Int32.toInt_mul, fdv_q hb]
  refine i_bmod ?_ ?_
  · by_cases k : 0 ≤ a.toInt
    · have := Int.mul_nonneg (Int.tdiv_nonneg k (Int.le_of_lt hb)) (Int.le_of_lt hb)
      omega
    · have h2 := tm_lo hb (show a.toInt < 0 by omega)
      omega
  · by_cases k : 0 ≤ a.toInt
    · have h2 := Int.tmod_nonneg (a := a.toInt) b.toInt k
      omega
    · have h3 := fl_eq (x := a.toInt) hb
      have h4 : a.toInt.tdiv b.toInt ≤ 0 := by
        have : a.toInt / b.toInt < 0 := Int.ediv_lt_of_lt_mul hb (by omega)
        split at h3 <;> omega
      have := Int.mul_nonpos_of_nonpos_of_nonneg h4 (Int.le_of_lt hb)
      omega
theorem fdv_b {a b : Int32} (hb : 0 < b.toInt) (h : ((a / b) * b).toInt = a.toInt) : (a / b).toInt = a.toInt / b.toInt := by
  rw [fdv_mul hb] at h
  rw [fdv_q hb]
  exact fl_exact hb h
theorem fdv_c {a b : Int32} (hb : 0 < b.toInt) (hx : (a ^^^ b).toInt < 0) (h : ((a / b) * b).toInt ≠ a.toInt) : (a / b - 1).toInt = a.toInt / b.toInt := by
  have hs := (xor_sgn a b).mp hx
  have ha : a.toInt < 0 := by omega
  rw [fdv_mul hb] at h
  have e := fl_down hb ha h
  have h1 : (1 : Int32).toInt = 1 := by decide
  have l := i_lo a
  have k : a.toInt ≤ a.toInt / b.toInt := Int.le_ediv_of_mul_le hb (by have := Int.mul_le_mul_of_nonpos_left (show a.toInt ≤ 0 by omega) (show (1 : Int) ≤ b.toInt by omega); omega)
  have k2 : a.toInt / b.toInt < 0 := Int.ediv_lt_of_lt_mul hb (by omega)
  rw [i_sub (by rw [fdv_q hb, h1]; omega) (by rw [fdv_q hb, h1]; omega), fdv_q hb, h1]
  exact e
theorem ll_lo (a : Int64) : -9223372036854775808 ≤ a.toInt := by have := Int64.le_toInt a; simpa using this
theorem ll_hi (a : Int64) : a.toInt ≤ 9223372036854775807 := by
  have h := Int64.toInt_lt a
  have : a.toInt < 9223372036854775808 := by simpa using h
  omega
theorem lq_bmod {x : Int} (h1 : -9223372036854775808 ≤ x) (h2 : x ≤ 9223372036854775807) : x.bmod (2 ^ 64) = x := by
  rw [Int.bmod_def]
  have : ((2 ^ 64 : Nat) : Int) = 18446744073709551616 := by decide
  rw [this]
  split <;> omega
theorem ldv_q {a b : Int64} (hb : 0 < b.toInt) : (a / b).toInt = a.toInt.tdiv b.toInt := by
  rw [Int64.toInt_div]
  have h := Int.natAbs_tdiv_le_natAbs a.toInt b.toInt
  have l := ll_lo a
  have u := ll_hi a
  by_cases g : a.toInt.tdiv b.toInt ≤ 9223372036854775807
  · exact lq_bmod (by omega) g
  · exfalso
    have e := fl_eq (x := a.toInt) hb
    by_cases k : 0 ≤ a.toInt ∨ b.toInt ∣ a.toInt
    · rw [if_pos k] at e
      have : a.toInt / b.toInt < 9223372036854775808 := Int.ediv_lt_of_lt_mul hb (by have := Int.mul_le_mul_of_nonneg_left (show (1 : Int) ≤ b.toInt by omega) (show (0 : Int) ≤ 9223372036854775808 by omega); omega)
      omega
    · rw [if_neg k] at e
      have : a.toInt / b.toInt < 0 := Int.ediv_lt_of_lt_mul hb (by omega)
      omega
theorem ldv_rng {a b : Int64} (hb : 0 < b.toInt) : (0 ≤ a.toInt → 0 ≤ a.toInt.tdiv b.toInt * b.toInt ∧ a.toInt.tdiv b.toInt * b.toInt ≤ a.toInt) ∧ (a.toInt < 0 → a.toInt ≤ a.toInt.tdiv b.toInt * b.toInt ∧ a.toInt.tdiv b.toInt * b.toInt ≤ 0) := by
  have hm := Int.tdiv_mul_add_tmod a.toInt b.toInt
  constructor
  · intro k
    have h2 := Int.tmod_nonneg (a := a.toInt) b.toInt k
    have := Int.mul_nonneg (Int.tdiv_nonneg k (Int.le_of_lt hb)) (Int.le_of_lt hb)
    omega
  · intro k
    have h2 := tm_lo hb k
    have h3 := fl_eq (x := a.toInt) hb
    have h4 : a.toInt.tdiv b.toInt ≤ 0 := by
      have : a.toInt / b.toInt < 0 := Int.ediv_lt_of_lt_mul hb (by omega)
      split at h3 <;> omega
    have := Int.mul_nonpos_of_nonpos_of_nonneg h4 (Int.le_of_lt hb)
    omega
theorem ldv_rem {a b : Int64} (hb : 0 < b.toInt) : (a - a / b * b).toInt = a.toInt - a.toInt.tdiv b.toInt * b.toInt := by
  have hr := ldv_rng (a := a) hb
  have l := ll_lo a
  have u := ll_hi a
  have hm : (a / b * b).toInt = a.toInt.tdiv b.toInt * b.toInt := by
    rw [Int64.toInt_mul, ldv_q hb]
    exact lq_bmod (by omega) (by omega)
  rw [Int64.toInt_sub, hm]
  exact lq_bmod (by omega) (by omega)
theorem lrm_0 {a b : Int64} (hb : 0 < b.toInt) : a - a / b * b = 0 ↔ a.toInt.tdiv b.toInt * b.toInt = a.toInt := by
  have h0 : (0 : Int64).toInt = 0 := by decide
  rw [← Int64.toInt_inj, ldv_rem hb, h0]
  omega
theorem lfl_1 {a b : Int64} (hb : 0 < b.toInt) (h : a - a / b * b = 0) : (a / b - 0).toInt = a.toInt / b.toInt := by
  rw [Int64.sub_zero, ldv_q hb]
  exact fl_exact hb ((lrm_0 hb).mp h)
theorem lfl_3 {a b : Int64} (hb : 0 < b.toInt) (h : 0 ≤ a.toInt) : (a / b - 0).toInt = a.toInt / b.toInt := by
  rw [Int64.sub_zero, ldv_q hb, fl_eq hb, if_pos (Or.inl h), Int.add_zero]
theorem lfl_2 {a b : Int64} (hb : 0 < b.toInt) (hx : a.toInt < 0) (h : ¬ a - a / b * b = 0) : (a / b - 1).toInt = a.toInt / b.toInt := by
  have e := fl_down hb hx (fun k => h ((lrm_0 hb).mpr k))
  have h1 : (1 : Int64).toInt = 1 := by decide
  have l := ll_lo a
  have k : a.toInt ≤ a.toInt / b.toInt := Int.le_ediv_of_mul_le hb (by have := Int.mul_le_mul_of_nonpos_left (show a.toInt ≤ 0 by omega) (show (1 : Int) ≤ b.toInt by omega); omega)
  have k2 : a.toInt / b.toInt < 0 := Int.ediv_lt_of_lt_mul hb (by omega)
  rw [Int64.toInt_sub, ldv_q hb, h1, e]
  exact lq_bmod (by omega) (by omega)
/-! ===== what is kept of a watch that sails ===== -/
def s64 (v : Nat → Int32) : Nat → Int64
  | 0 => 0
  | k + 1 => s64 v k + (v k).toInt64
theorem s64_s (v : Nat → Int32) (k : Nat) : s64 v (k + 1) = s64 v k + (v k).toInt64 := rfl
theorem s64_congr {v w : Nat → Int32} : ∀ n : Nat, (∀ i : Nat, i < n → v i = w i) → s64 v n = s64 w n
  | 0, _ => rfl
  | n + 1, h => by rw [s64_s, s64_s, s64_congr n (fun i hi => h i (by omega)), h n (by omega)]
def goM (l : List (Int32 × Int32)) : Int32 := Int32.ofInt ((s64 (vL l) l.length).toInt / (l.length : Int))
def duM (l : List (Int32 × Int32)) : Int32 := 1 + (srtA (vL l) (fun _ => 0) l.length (l.length - 1) - srtA (vL l) (fun _ => 0) l.length 0) / 2
theorem goM_of {d v : Nat → Int32} {n z : Int32} {s q m : Int64} {l : List (Int32 × Int32)} (hH : HOLDS d v n l) (hn : 1 ≤ n.toInt) (hs : s = s64 v n.toNatClampNeg) (hm : n.toInt64 = m) (hq : 0 < m.toInt → q.toInt = s.toInt / m.toInt) (hz : q.toInt32 = z) : z = goM l := by
  have hc := i_clamp0 (x := n) (by omega)
  have hl := hH.1
  have e : n.toNatClampNeg = l.length := by omega
  have em : m.toInt = n.toInt := by rw [← hm]; exact Int32.toInt_toInt64 n
  have hq' := hq (by omega)
  rw [em, hl, hs, e, s64_congr l.length (fun i hi => (HOLDS_dv hH i hi).2)] at hq'
  unfold goM
  rw [← hz]
  refine Int32.toInt_inj.mp ?_
  rw [Int64.toInt_toInt32, hq']
  exact Int32.toInt_ofInt.symm
theorem duM_of {d v s s0 : Nat → Int32} {n z a b : Int32} {l : List (Int32 × Int32)} (hH : HOLDS d v n l) (hn : 1 ≤ n.toInt) (hs : s = srtA v s0 n.toNatClampNeg) (ha : a = s (n - 1).toNatClampNeg) (hb : b = s 0) (hz : z = 1 + (a - b) / 2) : z = duM l := by
  have h1 : (1 : Int32).toInt = 1 := by decide
  have hh := i_hi n
  have hc := i_clamp0 (x := n) (by omega)
  have hl := hH.1
  have e : n.toNatClampNeg = l.length := by omega
  have e1 : (n - 1).toInt = n.toInt - 1 := g_sub rfl h1 (by omega) (by omega)
  have c1 := i_clamp0 (x := n - 1) (by omega)
  have e2 : (n - 1).toNatClampNeg = l.length - 1 := by omega
  have hg : ∀ i : Nat, i < l.length → s i = srtA (vL l) (fun _ => 0) l.length i := fun i hi => by
    rw [hs, e]
    exact srtA_congr l.length (fun i hi => (HOLDS_dv hH i hi).2) i hi
  unfold duM
  rw [hz, ha, hb, e2, hg _ (by omega), hg _ (by omega)]
/-- three numbers of a ship are set one after the other -/
def vseq (f : Nat → Int32) (p : Int32) (v : Nat → Int32) : Nat → Nat → Int32
  | 0 => f
  | k + 1 => upd (vseq f p v k) (3 * p.toNatClampNeg + k) (v k)
theorem vseq_s (f : Nat → Int32) (p : Int32) (v : Nat → Int32) (k : Nat) : vseq f p v (k + 1) = upd (vseq f p v k) (3 * p.toNatClampNeg + k) (v k) := rfl
theorem vseq_congr {f v w : Nat → Int32} {p : Int32} : ∀ n : Nat, (∀ k : Nat, k < n → v k = w k) → vseq f p v n = vseq f p w n
  | 0, _ => rfl
  | n + 1, h => by rw [vseq_s, vseq_s, vseq_congr n (fun i hi => h i (by omega)), h n (by omega)]
theorem vseq_at {f v : Nat → Int32} {p : Int32} {k : Nat} : ∀ n : Nat, k < n → vseq f p v n (3 * p.toNatClampNeg + k) = v k
  | 0, h => by omega
  | n + 1, h => by
    rw [vseq_s]
    by_cases e : k = n
    · subst e; rw [u_at]
    · rw [u_ne (by omega)]; exact vseq_at n (by omega)
theorem vseq_ne {f v : Nat → Int32} {p : Int32} {i : Nat} : ∀ n : Nat, (∀ k : Nat, k < n → i ≠ 3 * p.toNatClampNeg + k) → vseq f p v n i = f i
  | 0, _ => rfl
  | n + 1, h => by rw [vseq_s, u_ne (h n (by omega))]; exact vseq_ne n (fun k hk => h k (by omega))
def goX (l : List (Int32 × Int32)) : Int32 := Int32.ofInt ((sumI (vL l) l.length).toInt / (l.length : Int))
def duX (l : List (Int32 × Int32)) : Int32 := 1 + (Int32.ofInt (maxF (vL l) l.length) - Int32.ofInt (minF (vL l) l.length)) / 2
theorem sumI_congr {v w : Nat → Int32} : ∀ n : Nat, (∀ i : Nat, i < n → v i = w i) → sumI v n = sumI w n
  | 0, _ => rfl
  | n + 1, h => by rw [sumI_succ, sumI_succ, sumI_congr n (fun i hi => h i (by omega)), h n (by omega)]
theorem minF_congr {v w : Nat → Int32} : ∀ n : Nat, (∀ i : Nat, i < n → v i = w i) → minF v n = minF w n
  | 0, _ => rfl
  | n + 1, h => by rw [minF_succ, minF_succ, minF_congr n (fun i hi => h i (by omega)), h n (by omega)]
theorem maxF_congr {v w : Nat → Int32} : ∀ n : Nat, (∀ i : Nat, i < n → v i = w i) → maxF v n = maxF w n
  | 0, _ => rfl
  | n + 1, h => by rw [maxF_succ, maxF_succ, maxF_congr n (fun i hi => h i (by omega)), h n (by omega)]
theorem goX_of {d v : Nat → Int32} {n s z : Int32} {l : List (Int32 × Int32)} (hH : HOLDS d v n l) (hn : 1 ≤ n.toInt) (hs : s = sumI v n.toNatClampNeg) (hq : 0 < n.toInt → z.toInt = s.toInt / n.toInt) : z = goX l := by
  have hc := i_clamp0 (x := n) (by omega)
  have hl := hH.1
  have e : n.toNatClampNeg = l.length := by omega
  have hq' := hq (by omega)
  rw [hl, hs, e, sumI_congr l.length (fun i hi => (HOLDS_dv hH i hi).2)] at hq'
  unfold goX
  rw [← hq']
  exact (Int32.ofInt_toInt z).symm
theorem duX_of {d v : Nat → Int32} {n z a b : Int32} {l : List (Int32 × Int32)} (hH : HOLDS d v n l) (hn : 1 ≤ n.toInt) (ha : a.toInt = maxF v n.toNatClampNeg) (hb : b.toInt = minF v n.toNatClampNeg) (hz : z = 1 + (a - b) / 2) : z = duX l := by
  have hc := i_clamp0 (x := n) (by omega)
  have hl := hH.1
  have e : n.toNatClampNeg = l.length := by omega
  rw [e, maxF_congr l.length (fun i hi => (HOLDS_dv hH i hi).2)] at ha
  rw [e, minF_congr l.length (fun i hi => (HOLDS_dv hH i hi).2)] at hb
  unfold duX
  rw [← ha, ← hb, Int32.ofInt_toInt, Int32.ofInt_toInt]
  exact hz
/-- both sides' numbers of a watch that sails are the same -/
theorem sums_eq {v : Nat → Int32} : ∀ n : Nat, n ≤ 60 → (∀ i : Nat, i < n → -999 ≤ (v i).toInt ∧ (v i).toInt ≤ 999) → (s64 v n).toInt = (sumI v n).toInt ∧ -(999 * (n : Int)) ≤ (sumI v n).toInt ∧ (sumI v n).toInt ≤ 999 * (n : Int)
  | 0, _, _ => by
    have a : (0 : Int64).toInt = 0 := by decide
    have b : (0 : Int32).toInt = 0 := by decide
    show (0 : Int64).toInt = (0 : Int32).toInt ∧ _ ≤ (0 : Int32).toInt ∧ (0 : Int32).toInt ≤ _
    rw [a, b]
    exact ⟨rfl, by omega, by omega⟩
  | n + 1, hn, h => by
    obtain ⟨h1, h2, h3⟩ := sums_eq (v := v) n (by omega) (fun i hi => h i (by omega))
    have hv := h n (by omega)
    have e : (sumI v n + v n).toInt = (sumI v n).toInt + (v n).toInt := i_add (by omega) (by omega)
    rw [s64_s, sumI_succ, Int64.toInt_add, h1, Int32.toInt_toInt64, e]
    exact ⟨lq_bmod (by omega) (by omega), by omega, by omega⟩
theorem go_eq {l : List (Int32 × Int32)} (hl : l.length ≤ 60) (hv : ∀ i : Nat, i < l.length → -999 ≤ (vL l i).toInt ∧ (vL l i).toInt ≤ 999) : goM l = goX l := by
  unfold goM goX
  rw [(sums_eq l.length hl hv).1]
theorem du_eq {l : List (Int32 × Int32)} (h1 : 1 ≤ l.length) (hv : ∀ i : Nat, i < l.length → -999 ≤ (vL l i).toInt ∧ (vL l i).toInt ≤ 999) : duM l = duX l := by
  obtain ⟨n, hn⟩ : ∃ n, l.length = n + 1 := ⟨l.length - 1, by omega⟩
  have a := srtA_max (v := vL l) (f := fun _ => 0) n (fun i hi => (hv i (by omega)).1)
  have b := srtA_min (v := vL l) (f := fun _ => 0) n (fun i hi => (hv i (by omega)).2)
  unfold duM duX
  rw [hn, ← a, ← b, Int32.ofInt_toInt, Int32.ofInt_toInt, show n + 1 - 1 = n from rfl]
theorem vL_mem {l : List (Int32 × Int32)} {i : Nat} (hi : i < l.length) : (dL l i, vL l i) ∈ l := by
  unfold dL vL
  have e : l.getD i (0, 0) = l[i] := by rw [List.getD_eq_getElem?_getD, List.getElem?_eq_getElem hi]; rfl
  rw [e]
  exact List.getElem_mem hi
end
section
set_option maxHeartbeats 4000000 in
set_option maxRecDepth 100000 in
theorem g_X9_in (l : Launch) (D : va_G) (E : Nat → Nat) (p0 : Int32) (p1 : Int32) (p2 : Int32)  : Met l yX9_in (wl yX9_in cX9_in 3 (some .boolean)) (RM 0 0 0) (rd_P D E [.int p0, .int p1, .int p2] ([] : va_W)) (rd_Q (fun r => ((r = 1 ∧ (p1.toInt ≤ p0.toInt ∧ p0.toInt ≤ p2.toInt)) ∨ (r = 0 ∧ ¬ (p1.toInt ≤ p0.toInt ∧ p0.toInt ≤ p2.toInt))))) 0 0 (fun _ => False) := by
  refine Met.ofW (cc := cX9_in) (maxL := 3) (ret := (some .boolean)) (by decide) rfl ?_
  intro p e s m args below meth c s₁ B hml hv
  obtain ⟨rfl, hP, hK⟩ := hv
  have hx := B.exec; have hb := B.bytes; have hr := B.returns
  have hts := atoms_spec (ws := wl yX9_in cX9_in 3 (some .boolean)) B.pre
  have htb : ∀ w ∈ tb, w.before _ s = true := fun w h => hts w (List.mem_cons_of_mem _ h)
  have hown : s.vm.findClass RX9 = some m.cls := findClass_of_methodNamed B.named
  have hlocks := B.notSynchronized
  have hP : va_P D vwCl ([] : va_W) s.heap := hP
  have hl := lv_entry ([.int p0, .int p1, .int p2]) (n := 3) (Nat.le_of_ble_eq_true rfl)
  rw [lg_entry_eq]
  generalize (lg_sl ([.int p0, .int p1, .int p2]) ++ List.replicate (3 - (lg_sl ([.int p0, .int p1, .int p2])).length) Slot.unset).toArray = ls at hl ⊢
  have hl : lv_has ls 3 [(0, .int p0), (1, .int p1), (2, .int p2)] := hl
  have lo_p0 := i_lo p0; have hi_p0 := i_hi p0
  have lo_p1 := i_lo p1; have hi_p1 := i_hi p1
  have lo_p2 := i_lo p2; have hi_p2 := i_hi p2
  refine lv_iload_n hx hb dX9_in_0 rfl (lv_at hl 0 rfl) ?_
  refine lv_iload_n hx hb dX9_in_1 rfl (lv_at hl 1 rfl) ?_
  refine lv_icmp_lt (tgt := 14) hx hb dX9_in_2 (by decide) (fun c_1 => ?_) (fun c_1 => ?_)
  ·
    have ic_1 : p0.toInt < p1.toInt := by first | exact (g_lt rfl rfl).mp c_1 | (have h := mt (g_le rfl rfl).mpr c_1; omega)
    clear c_1
    refine lv_iconst (v := 0) hx hb dX9_in_14 (by decide) ?_
    exact W.zret (v := 0) hx hb hr rfl (fun t ht hW => ⟨0, rfl, by first | exact Or.inr ⟨rfl, by omega⟩ | (exfalso; omega), ht⟩) (fun q h => by cases h) dX9_in_15
  ·
    have ic_1 : p1.toInt ≤ p0.toInt := by first | exact (g_le rfl rfl).mp c_1 | (have h := mt (g_lt rfl rfl).mpr c_1; omega)
    clear c_1
    refine lv_iload_n hx hb dX9_in_5 rfl (lv_at hl 0 rfl) ?_
    refine lv_iload_n hx hb dX9_in_6 rfl (lv_at hl 2 rfl) ?_
    refine lv_icmp_gt (tgt := 14) hx hb dX9_in_7 (by decide) (fun c_2 => ?_) (fun c_2 => ?_)
    ·
      have ic_2 : p2.toInt < p0.toInt := by first | exact (g_lt rfl rfl).mp c_2 | (have h := mt (g_le rfl rfl).mpr c_2; omega)
      clear c_2
      refine lv_iconst (v := 0) hx hb dX9_in_14 (by decide) ?_
      exact W.zret (v := 0) hx hb hr rfl (fun t ht hW => ⟨0, rfl, by first | exact Or.inr ⟨rfl, by omega⟩ | (exfalso; omega), ht⟩) (fun q h => by cases h) dX9_in_15
    ·
      have ic_2 : p0.toInt ≤ p2.toInt := by first | exact (g_le rfl rfl).mp c_2 | (have h := mt (g_lt rfl rfl).mpr c_2; omega)
      clear c_2
      refine lv_iconst (v := 1) hx hb dX9_in_10 (by decide) ?_
      refine lv_goto (tgt := 15) hx hb dX9_in_11 (by decide) ?_
      exact W.zret (v := 1) hx hb hr rfl (fun t ht hW => ⟨1, rfl, by first | exact Or.inl ⟨rfl, by omega⟩ | (exfalso; omega), ht⟩) (fun q h => by cases h) dX9_in_15
set_option maxHeartbeats 4000000 in
set_option maxRecDepth 100000 in
theorem g_X9_isPlace (l : Launch) (D : va_G) (E : Nat → Nat) (p0 : Int32)  : Met l yX9_isPlace (wl yX9_isPlace cX9_isPlace 1 (some .boolean)) (RM 1 0 0) (rd_P D E [.int p0] ([] : va_W)) (rd_Q (fun r => ((r = 1 ∧ (0 ≤ p0.toInt ∧ p0.toInt ≤ 15)) ∨ (r = 0 ∧ ¬ (0 ≤ p0.toInt ∧ p0.toInt ≤ 15))))) 0 0 (fun _ => False) := by
  refine Met.ofW (cc := cX9_isPlace) (maxL := 1) (ret := (some .boolean)) (by decide) rfl ?_
  intro p e s m args below meth c s₁ B hml hv
  obtain ⟨rfl, hP, hK⟩ := hv
  have hx := B.exec; have hb := B.bytes; have hr := B.returns
  have hts := atoms_spec (ws := wl yX9_isPlace cX9_isPlace 1 (some .boolean)) B.pre
  have htb : ∀ w ∈ tb, w.before _ s = true := fun w h => hts w (List.mem_cons_of_mem _ h)
  have hown : s.vm.findClass RX9 = some m.cls := findClass_of_methodNamed B.named
  have hlocks := B.notSynchronized
  have hP : va_P D vwCl ([] : va_W) s.heap := hP
  have hl := lv_entry ([.int p0]) (n := 1) (Nat.le_of_ble_eq_true rfl)
  rw [lg_entry_eq]
  generalize (lg_sl ([.int p0]) ++ List.replicate (1 - (lg_sl ([.int p0])).length) Slot.unset).toArray = ls at hl ⊢
  have hl : lv_has ls 1 [(0, .int p0)] := hl
  have lo_p0 := i_lo p0; have hi_p0 := i_hi p0
  refine lv_iload_n hx hb dX9_isPlace_0 rfl (lv_at hl 0 rfl) ?_
  refine lv_iconst (v := 0) hx hb dX9_isPlace_1 (by decide) ?_
  refine lv_bipush (v := 15) hx hb dX9_isPlace_2 (by decide) ?_
  refine callRS (rest := []) (As := [.int p0, .int 0, .int 15]) hx hb hml hown htb hK (g_X9_in l D E p0 0 15 ) ok_X9_in k_1168 k_1169 k_9 k_1170 ⟨(Nat.le_of_ble_eq_true rfl), (Nat.le_of_ble_eq_true rfl)⟩ ⟨(Nat.le_of_ble_eq_true rfl), (Nat.le_of_ble_eq_true rfl)⟩ hl.1 (Nat.le_of_ble_eq_true rfl) rfl rfl dX9_isPlace_4 (hP.sub (ws' := ([] : va_W)) [] rfl) (fun r_1 hw_2 => ?_)
  try simp only [t_0, t_15] at hw_2
  rcases hw_2 with ⟨hr_1, hw_2⟩ | ⟨hr_1, hw_2⟩
  ·
    try simp only [t_0, t_15] at hw_2
    refine W_top (y := .int 1) (by rw [hr_1]) ?_
    exact W.zret (v := 1) hx hb hr rfl (fun t ht hW => ⟨1, rfl, by first | exact Or.inl ⟨rfl, by omega⟩ | (exfalso; omega), ht⟩) (fun q h => by cases h) dX9_isPlace_7
  ·
    try simp only [t_0, t_15] at hw_2
    refine W_top (y := .int 0) (by rw [hr_1]) ?_
    exact W.zret (v := 0) hx hb hr rfl (fun t ht hW => ⟨0, rfl, by first | exact Or.inr ⟨rfl, by omega⟩ | (exfalso; omega), ht⟩) (fun q h => by cases h) dX9_isPlace_7
set_option maxHeartbeats 4000000 in
set_option maxRecDepth 100000 in
theorem g_X9_isDay (l : Launch) (D : va_G) (E : Nat → Nat) (p0 : Int32)  : Met l yX9_isDay (wl yX9_isDay cX9_isDay 1 (some .boolean)) (RM 1 0 0) (rd_P D E [.int p0] ([] : va_W)) (rd_Q (fun r => ((r = 1 ∧ (0 ≤ p0.toInt ∧ p0.toInt ≤ 399)) ∨ (r = 0 ∧ ¬ (0 ≤ p0.toInt ∧ p0.toInt ≤ 399))))) 0 0 (fun _ => False) := by
  refine Met.ofW (cc := cX9_isDay) (maxL := 1) (ret := (some .boolean)) (by decide) rfl ?_
  intro p e s m args below meth c s₁ B hml hv
  obtain ⟨rfl, hP, hK⟩ := hv
  have hx := B.exec; have hb := B.bytes; have hr := B.returns
  have hts := atoms_spec (ws := wl yX9_isDay cX9_isDay 1 (some .boolean)) B.pre
  have htb : ∀ w ∈ tb, w.before _ s = true := fun w h => hts w (List.mem_cons_of_mem _ h)
  have hown : s.vm.findClass RX9 = some m.cls := findClass_of_methodNamed B.named
  have hlocks := B.notSynchronized
  have hP : va_P D vwCl ([] : va_W) s.heap := hP
  have hl := lv_entry ([.int p0]) (n := 1) (Nat.le_of_ble_eq_true rfl)
  rw [lg_entry_eq]
  generalize (lg_sl ([.int p0]) ++ List.replicate (1 - (lg_sl ([.int p0])).length) Slot.unset).toArray = ls at hl ⊢
  have hl : lv_has ls 1 [(0, .int p0)] := hl
  have lo_p0 := i_lo p0; have hi_p0 := i_hi p0
  refine lv_iload_n hx hb dX9_isDay_0 rfl (lv_at hl 0 rfl) ?_
  refine lv_iconst (v := 0) hx hb dX9_isDay_1 (by decide) ?_
  refine lv_sipush (v := 399) hx hb dX9_isDay_2 (by decide) ?_
  refine callRS (rest := []) (As := [.int p0, .int 0, .int 399]) hx hb hml hown htb hK (g_X9_in l D E p0 0 399 ) ok_X9_in k_1168 k_1169 k_9 k_1170 ⟨(Nat.le_of_ble_eq_true rfl), (Nat.le_of_ble_eq_true rfl)⟩ ⟨(Nat.le_of_ble_eq_true rfl), (Nat.le_of_ble_eq_true rfl)⟩ hl.1 (Nat.le_of_ble_eq_true rfl) rfl rfl dX9_isDay_5 (hP.sub (ws' := ([] : va_W)) [] rfl) (fun r_1 hw_2 => ?_)
  try simp only [t_0, t_399] at hw_2
  rcases hw_2 with ⟨hr_1, hw_2⟩ | ⟨hr_1, hw_2⟩
  ·
    try simp only [t_0, t_399] at hw_2
    refine W_top (y := .int 1) (by rw [hr_1]) ?_
    exact W.zret (v := 1) hx hb hr rfl (fun t ht hW => ⟨1, rfl, by first | exact Or.inl ⟨rfl, by omega⟩ | (exfalso; omega), ht⟩) (fun q h => by cases h) dX9_isDay_8
  ·
    try simp only [t_0, t_399] at hw_2
    refine W_top (y := .int 0) (by rw [hr_1]) ?_
    exact W.zret (v := 0) hx hb hr rfl (fun t ht hW => ⟨0, rfl, by first | exact Or.inr ⟨rfl, by omega⟩ | (exfalso; omega), ht⟩) (fun q h => by cases h) dX9_isDay_8
set_option maxHeartbeats 4000000 in
set_option maxRecDepth 100000 in
theorem g_X9_isShip (l : Launch) (D : va_G) (E : Nat → Nat) (p0 : Int32)  : Met l yX9_isShip (wl yX9_isShip cX9_isShip 1 (some .boolean)) (RM 1 0 0) (rd_P D E [.int p0] ([] : va_W)) (rd_Q (fun r => ((r = 1 ∧ (0 ≤ p0.toInt ∧ p0.toInt ≤ 4)) ∨ (r = 0 ∧ ¬ (0 ≤ p0.toInt ∧ p0.toInt ≤ 4))))) 0 0 (fun _ => False) := by
  refine Met.ofW (cc := cX9_isShip) (maxL := 1) (ret := (some .boolean)) (by decide) rfl ?_
  intro p e s m args below meth c s₁ B hml hv
  obtain ⟨rfl, hP, hK⟩ := hv
  have hx := B.exec; have hb := B.bytes; have hr := B.returns
  have hts := atoms_spec (ws := wl yX9_isShip cX9_isShip 1 (some .boolean)) B.pre
  have htb : ∀ w ∈ tb, w.before _ s = true := fun w h => hts w (List.mem_cons_of_mem _ h)
  have hown : s.vm.findClass RX9 = some m.cls := findClass_of_methodNamed B.named
  have hlocks := B.notSynchronized
  have hP : va_P D vwCl ([] : va_W) s.heap := hP
  have hl := lv_entry ([.int p0]) (n := 1) (Nat.le_of_ble_eq_true rfl)
  rw [lg_entry_eq]
  generalize (lg_sl ([.int p0]) ++ List.replicate (1 - (lg_sl ([.int p0])).length) Slot.unset).toArray = ls at hl ⊢
  have hl : lv_has ls 1 [(0, .int p0)] := hl
  have lo_p0 := i_lo p0; have hi_p0 := i_hi p0
  refine lv_iload_n hx hb dX9_isShip_0 rfl (lv_at hl 0 rfl) ?_
  refine lv_iconst (v := 0) hx hb dX9_isShip_1 (by decide) ?_
  refine lv_iconst (v := 4) hx hb dX9_isShip_2 (by decide) ?_
  refine callRS (rest := []) (As := [.int p0, .int 0, .int 4]) hx hb hml hown htb hK (g_X9_in l D E p0 0 4 ) ok_X9_in k_1168 k_1169 k_9 k_1170 ⟨(Nat.le_of_ble_eq_true rfl), (Nat.le_of_ble_eq_true rfl)⟩ ⟨(Nat.le_of_ble_eq_true rfl), (Nat.le_of_ble_eq_true rfl)⟩ hl.1 (Nat.le_of_ble_eq_true rfl) rfl rfl dX9_isShip_3 (hP.sub (ws' := ([] : va_W)) [] rfl) (fun r_1 hw_2 => ?_)
  try simp only [t_0, t_4] at hw_2
  rcases hw_2 with ⟨hr_1, hw_2⟩ | ⟨hr_1, hw_2⟩
  ·
    try simp only [t_0, t_4] at hw_2
    refine W_top (y := .int 1) (by rw [hr_1]) ?_
    exact W.zret (v := 1) hx hb hr rfl (fun t ht hW => ⟨1, rfl, by first | exact Or.inl ⟨rfl, by omega⟩ | (exfalso; omega), ht⟩) (fun q h => by cases h) dX9_isShip_6
  ·
    try simp only [t_0, t_4] at hw_2
    refine W_top (y := .int 0) (by rw [hr_1]) ?_
    exact W.zret (v := 0) hx hb hr rfl (fun t ht hW => ⟨0, rfl, by first | exact Or.inr ⟨rfl, by omega⟩ | (exfalso; omega), ht⟩) (fun q h => by cases h) dX9_isShip_6
set_option maxHeartbeats 4000000 in
set_option maxRecDepth 100000 in
theorem g_X9_isShown (l : Launch) (D : va_G) (E : Nat → Nat) (p0 : Int32)  : Met l yX9_isShown (wl yX9_isShown cX9_isShown 1 (some .boolean)) (RM 1 0 0) (rd_P D E [.int p0] ([] : va_W)) (rd_Q (fun r => ((r = 1 ∧ (-2000000 ≤ p0.toInt ∧ p0.toInt ≤ 2000000)) ∨ (r = 0 ∧ ¬ (-2000000 ≤ p0.toInt ∧ p0.toInt ≤ 2000000))))) 0 0 (fun _ => False) := by
  refine Met.ofW (cc := cX9_isShown) (maxL := 1) (ret := (some .boolean)) (by decide) rfl ?_
  intro p e s m args below meth c s₁ B hml hv
  obtain ⟨rfl, hP, hK⟩ := hv
  have hx := B.exec; have hb := B.bytes; have hr := B.returns
  have hts := atoms_spec (ws := wl yX9_isShown cX9_isShown 1 (some .boolean)) B.pre
  have htb : ∀ w ∈ tb, w.before _ s = true := fun w h => hts w (List.mem_cons_of_mem _ h)
  have hown : s.vm.findClass RX9 = some m.cls := findClass_of_methodNamed B.named
  have hlocks := B.notSynchronized
  have hP : va_P D vwCl ([] : va_W) s.heap := hP
  have hl := lv_entry ([.int p0]) (n := 1) (Nat.le_of_ble_eq_true rfl)
  rw [lg_entry_eq]
  generalize (lg_sl ([.int p0]) ++ List.replicate (1 - (lg_sl ([.int p0])).length) Slot.unset).toArray = ls at hl ⊢
  have hl : lv_has ls 1 [(0, .int p0)] := hl
  have lo_p0 := i_lo p0; have hi_p0 := i_hi p0
  refine lv_iload_n hx hb dX9_isShown_0 rfl (lv_at hl 0 rfl) ?_
  refine lv_ldcw hx hb hown (htb _ k_1436) dX9_isShown_1 ?_
  refine lv_ldcw hx hb hown (htb _ k_1437) dX9_isShown_4 ?_
  refine callRS (rest := []) (As := [.int p0, .int (-2000000), .int 2000000]) hx hb hml hown htb hK (g_X9_in l D E p0 (-2000000) 2000000 ) ok_X9_in k_1168 k_1169 k_9 k_1170 ⟨(Nat.le_of_ble_eq_true rfl), (Nat.le_of_ble_eq_true rfl)⟩ ⟨(Nat.le_of_ble_eq_true rfl), (Nat.le_of_ble_eq_true rfl)⟩ hl.1 (Nat.le_of_ble_eq_true rfl) rfl rfl dX9_isShown_7 (hP.sub (ws' := ([] : va_W)) [] rfl) (fun r_1 hw_2 => ?_)
  try simp only [t_m2000000, t_2000000] at hw_2
  rcases hw_2 with ⟨hr_1, hw_2⟩ | ⟨hr_1, hw_2⟩
  ·
    try simp only [t_m2000000, t_2000000] at hw_2
    refine W_top (y := .int 1) (by rw [hr_1]) ?_
    exact W.zret (v := 1) hx hb hr rfl (fun t ht hW => ⟨1, rfl, by first | exact Or.inl ⟨rfl, by omega⟩ | (exfalso; omega), ht⟩) (fun q h => by cases h) dX9_isShown_10
  ·
    try simp only [t_m2000000, t_2000000] at hw_2
    refine W_top (y := .int 0) (by rw [hr_1]) ?_
    exact W.zret (v := 0) hx hb hr rfl (fun t ht hW => ⟨0, rfl, by first | exact Or.inr ⟨rfl, by omega⟩ | (exfalso; omega), ht⟩) (fun q h => by cases h) dX9_isShown_10
set_option maxHeartbeats 4000000 in
set_option maxRecDepth 100000 in
theorem g_X9_isKnown (l : Launch) (D : va_G) (E : Nat → Nat) (p0 : Int32)  : Met l yX9_isKnown (wl yX9_isKnown cX9_isKnown 1 (some .boolean)) (RM 1 0 0) (rd_P D E [.int p0] ([] : va_W)) (rd_Q (fun r => ((r = 1 ∧ (-1 ≤ p0.toInt ∧ p0.toInt ≤ 399)) ∨ (r = 0 ∧ ¬ (-1 ≤ p0.toInt ∧ p0.toInt ≤ 399))))) 0 0 (fun _ => False) := by
  refine Met.ofW (cc := cX9_isKnown) (maxL := 1) (ret := (some .boolean)) (by decide) rfl ?_
  intro p e s m args below meth c s₁ B hml hv
  obtain ⟨rfl, hP, hK⟩ := hv
  have hx := B.exec; have hb := B.bytes; have hr := B.returns
  have hts := atoms_spec (ws := wl yX9_isKnown cX9_isKnown 1 (some .boolean)) B.pre
  have htb : ∀ w ∈ tb, w.before _ s = true := fun w h => hts w (List.mem_cons_of_mem _ h)
  have hown : s.vm.findClass RX9 = some m.cls := findClass_of_methodNamed B.named
  have hlocks := B.notSynchronized
  have hP : va_P D vwCl ([] : va_W) s.heap := hP
  have hl := lv_entry ([.int p0]) (n := 1) (Nat.le_of_ble_eq_true rfl)
  rw [lg_entry_eq]
  generalize (lg_sl ([.int p0]) ++ List.replicate (1 - (lg_sl ([.int p0])).length) Slot.unset).toArray = ls at hl ⊢
  have hl : lv_has ls 1 [(0, .int p0)] := hl
  have lo_p0 := i_lo p0; have hi_p0 := i_hi p0
  refine lv_iload_n hx hb dX9_isKnown_0 rfl (lv_at hl 0 rfl) ?_
  refine lv_iconst (v := (-1)) hx hb dX9_isKnown_1 (by decide) ?_
  refine lv_sipush (v := 399) hx hb dX9_isKnown_2 (by decide) ?_
  refine callRS (rest := []) (As := [.int p0, .int (-1), .int 399]) hx hb hml hown htb hK (g_X9_in l D E p0 (-1) 399 ) ok_X9_in k_1168 k_1169 k_9 k_1170 ⟨(Nat.le_of_ble_eq_true rfl), (Nat.le_of_ble_eq_true rfl)⟩ ⟨(Nat.le_of_ble_eq_true rfl), (Nat.le_of_ble_eq_true rfl)⟩ hl.1 (Nat.le_of_ble_eq_true rfl) rfl rfl dX9_isKnown_5 (hP.sub (ws' := ([] : va_W)) [] rfl) (fun r_1 hw_2 => ?_)
  try simp only [t_m1, t_399] at hw_2
  rcases hw_2 with ⟨hr_1, hw_2⟩ | ⟨hr_1, hw_2⟩
  ·
    try simp only [t_m1, t_399] at hw_2
    refine W_top (y := .int 1) (by rw [hr_1]) ?_
    exact W.zret (v := 1) hx hb hr rfl (fun t ht hW => ⟨1, rfl, by first | exact Or.inl ⟨rfl, by omega⟩ | (exfalso; omega), ht⟩) (fun q h => by cases h) dX9_isKnown_8
  ·
    try simp only [t_m1, t_399] at hw_2
    refine W_top (y := .int 0) (by rw [hr_1]) ?_
    exact W.zret (v := 0) hx hb hr rfl (fun t ht hW => ⟨0, rfl, by first | exact Or.inr ⟨rfl, by omega⟩ | (exfalso; omega), ht⟩) (fun q h => by cases h) dX9_isKnown_8
set_option maxHeartbeats 4000000 in
set_option maxRecDepth 100000 in
theorem g_X9_areDays (l : Launch) (D : va_G) (E : Nat → Nat) (p0 : Int32) (p1 : Int32)  : Met l yX9_areDays (wl yX9_areDays cX9_areDays 2 (some .boolean)) (RM 0 0 0) (rd_P D E [.int p0, .int p1] ([] : va_W)) (rd_Q (fun r => ((r = 1 ∧ (0 ≤ p0.toInt ∧ p1.toInt ≤ 399 ∧ p0.toInt < p1.toInt ∧ p1.toInt - p0.toInt ≤ 60)) ∨ (r = 0 ∧ ¬ (0 ≤ p0.toInt ∧ p1.toInt ≤ 399 ∧ p0.toInt < p1.toInt ∧ p1.toInt - p0.toInt ≤ 60))))) 0 0 (fun _ => False) := by
  refine Met.ofW (cc := cX9_areDays) (maxL := 2) (ret := (some .boolean)) (by decide) rfl ?_
  intro p e s m args below meth c s₁ B hml hv
  obtain ⟨rfl, hP, hK⟩ := hv
  have hx := B.exec; have hb := B.bytes; have hr := B.returns
  have hts := atoms_spec (ws := wl yX9_areDays cX9_areDays 2 (some .boolean)) B.pre
  have htb : ∀ w ∈ tb, w.before _ s = true := fun w h => hts w (List.mem_cons_of_mem _ h)
  have hown : s.vm.findClass RX9 = some m.cls := findClass_of_methodNamed B.named
  have hlocks := B.notSynchronized
  have hP : va_P D vwCl ([] : va_W) s.heap := hP
  have hl := lv_entry ([.int p0, .int p1]) (n := 2) (Nat.le_of_ble_eq_true rfl)
  rw [lg_entry_eq]
  generalize (lg_sl ([.int p0, .int p1]) ++ List.replicate (2 - (lg_sl ([.int p0, .int p1])).length) Slot.unset).toArray = ls at hl ⊢
  have hl : lv_has ls 2 [(0, .int p0), (1, .int p1)] := hl
  have lo_p0 := i_lo p0; have hi_p0 := i_hi p0
  have lo_p1 := i_lo p1; have hi_p1 := i_hi p1
  refine lv_iload_n hx hb dX9_areDays_0 rfl (lv_at hl 0 rfl) ?_
  refine lv_if_lt (tgt := 28) hx hb dX9_areDays_1 (by decide) (fun c_1 => ?_) (fun c_1 => ?_)
  ·
    have ic_1 : p0.toInt < 0 := by first | exact (g_lt rfl t_0).mp c_1 | (have h := mt (g_le t_0 rfl).mpr c_1; omega)
    clear c_1
    refine lv_iconst (v := 0) hx hb dX9_areDays_28 (by decide) ?_
    exact W.zret (v := 0) hx hb hr rfl (fun t ht hW => ⟨0, rfl, by first | exact Or.inr ⟨rfl, by omega⟩ | (exfalso; omega), ht⟩) (fun q h => by cases h) dX9_areDays_29
  ·
    have ic_1 : 0 ≤ p0.toInt := by first | exact (g_le t_0 rfl).mp c_1 | (have h := mt (g_lt rfl t_0).mpr c_1; omega)
    clear c_1
    refine lv_iload_n hx hb dX9_areDays_4 rfl (lv_at hl 1 rfl) ?_
    refine lv_sipush (v := 399) hx hb dX9_areDays_5 (by decide) ?_
    refine lv_icmp_gt (tgt := 28) hx hb dX9_areDays_8 (by decide) (fun c_2 => ?_) (fun c_2 => ?_)
    ·
      have ic_2 : 399 < p1.toInt := by first | exact (g_lt t_399 rfl).mp c_2 | (have h := mt (g_le rfl t_399).mpr c_2; omega)
      clear c_2
      refine lv_iconst (v := 0) hx hb dX9_areDays_28 (by decide) ?_
      exact W.zret (v := 0) hx hb hr rfl (fun t ht hW => ⟨0, rfl, by first | exact Or.inr ⟨rfl, by omega⟩ | (exfalso; omega), ht⟩) (fun q h => by cases h) dX9_areDays_29
    ·
      have ic_2 : p1.toInt ≤ 399 := by first | exact (g_le rfl t_399).mp c_2 | (have h := mt (g_lt t_399 rfl).mpr c_2; omega)
      clear c_2
      refine lv_iload_n hx hb dX9_areDays_11 rfl (lv_at hl 1 rfl) ?_
      refine lv_iload_n hx hb dX9_areDays_12 rfl (lv_at hl 0 rfl) ?_
      refine lv_icmp_le (tgt := 28) hx hb dX9_areDays_13 (by decide) (fun c_3 => ?_) (fun c_3 => ?_)
      ·
        have ic_3 : p1.toInt ≤ p0.toInt := by first | exact (g_le rfl rfl).mp c_3 | (have h := mt (g_lt rfl rfl).mpr c_3; omega)
        clear c_3
        refine lv_iconst (v := 0) hx hb dX9_areDays_28 (by decide) ?_
        exact W.zret (v := 0) hx hb hr rfl (fun t ht hW => ⟨0, rfl, by first | exact Or.inr ⟨rfl, by omega⟩ | (exfalso; omega), ht⟩) (fun q h => by cases h) dX9_areDays_29
      ·
        have ic_3 : p0.toInt < p1.toInt := by first | exact (g_lt rfl rfl).mp c_3 | (have h := mt (g_le rfl rfl).mpr c_3; omega)
        clear c_3
        refine lv_iload_n hx hb dX9_areDays_16 rfl (lv_at hl 1 rfl) ?_
        refine lv_iload_n hx hb dX9_areDays_17 rfl (lv_at hl 0 rfl) ?_
        refine lv_isub hx hb dX9_areDays_18 ?_
        refine lv_topi (fun z_4 ez_4 => ?_)
        have jz_4 : z_4.toInt = p1.toInt - p0.toInt := by rw [ez_4]; exact g_sub rfl rfl (by omega) (by omega)
        refine lv_bipush (v := 60) hx hb dX9_areDays_19 (by decide) ?_
        refine lv_icmp_gt (tgt := 28) hx hb dX9_areDays_21 (by decide) (fun c_5 => ?_) (fun c_5 => ?_)
        ·
          have ic_5 : 60 < z_4.toInt := by first | exact (g_lt t_60 rfl).mp c_5 | (have h := mt (g_le rfl t_60).mpr c_5; omega)
          clear c_5
          refine lv_iconst (v := 0) hx hb dX9_areDays_28 (by decide) ?_
          exact W.zret (v := 0) hx hb hr rfl (fun t ht hW => ⟨0, rfl, by first | exact Or.inr ⟨rfl, by omega⟩ | (exfalso; omega), ht⟩) (fun q h => by cases h) dX9_areDays_29
        ·
          have ic_5 : z_4.toInt ≤ 60 := by first | exact (g_le rfl t_60).mp c_5 | (have h := mt (g_lt t_60 rfl).mpr c_5; omega)
          clear c_5
          refine lv_iconst (v := 1) hx hb dX9_areDays_24 (by decide) ?_
          refine lv_goto (tgt := 29) hx hb dX9_areDays_25 (by decide) ?_
          exact W.zret (v := 1) hx hb hr rfl (fun t ht hW => ⟨1, rfl, by first | exact Or.inl ⟨rfl, by omega⟩ | (exfalso; omega), ht⟩) (fun q h => by cases h) dX9_areDays_29
set_option maxHeartbeats 4000000 in
set_option maxRecDepth 100000 in
theorem g_X9_size (l : Launch) (D : va_G) (E : Nat → Nat) (p0 : Int32)  : Met l yX9_size (wl yX9_size cX9_size 1 (some .int)) (RM 0 0 0) (rd_P D E [.int p0] ([] : va_W)) (rd_Q (fun r => (r = szF p0))) 0 0 (fun _ => False) := by
  refine Met.ofW (cc := cX9_size) (maxL := 1) (ret := (some .int)) (by decide) rfl ?_
  intro p e s m args below meth c s₁ B hml hv
  obtain ⟨rfl, hP, hK⟩ := hv
  have hx := B.exec; have hb := B.bytes; have hr := B.returns
  have hts := atoms_spec (ws := wl yX9_size cX9_size 1 (some .int)) B.pre
  have htb : ∀ w ∈ tb, w.before _ s = true := fun w h => hts w (List.mem_cons_of_mem _ h)
  have hown : s.vm.findClass RX9 = some m.cls := findClass_of_methodNamed B.named
  have hlocks := B.notSynchronized
  have hP : va_P D vwCl ([] : va_W) s.heap := hP
  have hl := lv_entry ([.int p0]) (n := 1) (Nat.le_of_ble_eq_true rfl)
  rw [lg_entry_eq]
  generalize (lg_sl ([.int p0]) ++ List.replicate (1 - (lg_sl ([.int p0])).length) Slot.unset).toArray = ls at hl ⊢
  have hl : lv_has ls 1 [(0, .int p0)] := hl
  have lo_p0 := i_lo p0; have hi_p0 := i_hi p0
  refine lv_iload_n hx hb dX9_size_0 rfl (lv_at hl 0 rfl) ?_
  refine lv_if_ge (tgt := 9) hx hb dX9_size_1 (by decide) (fun c_1 => ?_) (fun c_1 => ?_)
  ·
    have ic_1 : 0 ≤ p0.toInt := by first | exact (g_le t_0 rfl).mp c_1 | (have h := mt (g_lt rfl t_0).mpr c_1; omega)
    clear c_1
    refine lv_iload_n hx hb dX9_size_9 rfl (lv_at hl 0 rfl) ?_
    exact W.iret (v := p0) hx hb hr (fun t ht hW => ⟨p0, rfl, (by unfold szF; first | (rw [if_pos (by omega)]; try assumption) | (rw [if_neg (by omega)])), ht⟩) (fun q h => by cases h) dX9_size_10
  ·
    have ic_1 : p0.toInt < 0 := by first | exact (g_lt rfl t_0).mp c_1 | (have h := mt (g_le t_0 rfl).mpr c_1; omega)
    clear c_1
    refine lv_iload_n hx hb dX9_size_4 rfl (lv_at hl 0 rfl) ?_
    refine lv_ineg hx hb dX9_size_5 ?_
    refine lv_topi (fun z_2 ez_2 => ?_)
    refine lv_goto (tgt := 10) hx hb dX9_size_6 (by decide) ?_
    exact W.iret (v := z_2) hx hb hr (fun t ht hW => ⟨z_2, rfl, (by unfold szF; first | (rw [if_pos (by omega)]; try assumption) | (rw [if_neg (by omega)])), ht⟩) (fun q h => by cases h) dX9_size_10
set_option maxHeartbeats 4000000 in
set_option maxRecDepth 100000 in
theorem g_X9_floor (l : Launch) (D : va_G) (E : Nat → Nat) (p0 : Int64) (p1 : Int64) (n0 : ¬ p1 = 0) : Met l yX9_floor (wl yX9_floor cX9_floor 4 (some .long)) (RM 0 0 0) (rd_P D E [.long p0, .long p1] ([] : va_W)) (rl_Q (fun r => (0 < (p1 : Int64).toInt → r.toInt = (p0 : Int64).toInt / (p1 : Int64).toInt))) 0 0 (fun _ => False) := by
  refine Met.ofW (cc := cX9_floor) (maxL := 4) (ret := (some .long)) (by decide) rfl ?_
  intro p e s m args below meth c s₁ B hml hv
  obtain ⟨rfl, hP, hK⟩ := hv
  have hx := B.exec; have hb := B.bytes; have hr := B.returns
  have hts := atoms_spec (ws := wl yX9_floor cX9_floor 4 (some .long)) B.pre
  have htb : ∀ w ∈ tb, w.before _ s = true := fun w h => hts w (List.mem_cons_of_mem _ h)
  have hown : s.vm.findClass RX9 = some m.cls := findClass_of_methodNamed B.named
  have hlocks := B.notSynchronized
  have hP : va_P D vwCl ([] : va_W) s.heap := hP
  have hl := lv_entry ([.long p0, .long p1]) (n := 4) (Nat.le_of_ble_eq_true rfl)
  rw [lg_entry_eq]
  generalize (lg_sl ([.long p0, .long p1]) ++ List.replicate (4 - (lg_sl ([.long p0, .long p1])).length) Slot.unset).toArray = ls at hl ⊢
  have hl : lv_has ls 4 [(0, .long p0), (2, .long p1)] := hl
  refine lv_lload_n hx hb dX9_floor_0 rfl (lv_at hl 0 rfl) ?_
  refine lv_lload_n hx hb dX9_floor_1 rfl (lv_at hl 1 rfl) ?_
  refine lv_ldiv hx hb dX9_floor_2 (by assumption) ?_
  refine lv_topl (fun z_1 ez_1 => ?_)
  refine lv_lload_n hx hb dX9_floor_3 rfl (lv_at hl 0 rfl) ?_
  refine lv_lload_n hx hb dX9_floor_4 rfl (lv_at hl 1 rfl) ?_
  refine lv_lrem hx hb dX9_floor_5 (by assumption) ?_
  refine lv_topl (fun z_2 ez_2 => ?_)
  refine lv_lconst (v := 0) hx hb dX9_floor_6 (by decide) ?_
  refine W.lcmp hx hb dX9_floor_7 ?_
  refine lv_topi (fun z_3 ez_3 => ?_)
  refine lv_if_eq (tgt := 40) hx hb dX9_floor_8 (by decide) (fun c_4 => ?_) (fun c_4 => ?_)
  ·
    have lc_5 : (z_2 : Int64) = (0 : Int64) := lc_eq (by rw [← ez_3]; exact c_4)
    refine lv_lconst (v := 0) hx hb dX9_floor_40 (by decide) ?_
    refine lv_lsub hx hb dX9_floor_41 ?_
    refine lv_topl (fun z_6 ez_6 => ?_)
    exact W.lret (v := z_6) hx hb hr (fun t ht hW => ⟨z_6, rfl, (fun hy => by rw [ez_6, ez_1]; exact lfl_1 hy (by rw [← ez_2]; exact lc_5)), ht⟩) (fun q h => by cases h) dX9_floor_42
  ·
    have lc_7 : ¬ (z_2 : Int64) = (0 : Int64) := lc_ne (by rw [← ez_3]; exact c_4)
    refine lv_lload_n hx hb dX9_floor_11 rfl (lv_at hl 0 rfl) ?_
    refine lv_lconst (v := 0) hx hb dX9_floor_12 (by decide) ?_
    refine W.lcmp hx hb dX9_floor_13 ?_
    refine lv_topi (fun z_8 ez_8 => ?_)
    refine lv_if_ge (tgt := 21) hx hb dX9_floor_14 (by decide) (fun c_9 => ?_) (fun c_9 => ?_)
    ·
      have lc_10 : (0 : Int64).toInt ≤ (p0 : Int64).toInt := lc_geI (by rw [← ez_8]; first | exact Or.inl c_9 | exact Or.inr c_9)
      refine lv_iconst (v := 0) hx hb dX9_floor_21 (by decide) ?_
      refine lv_lload_n hx hb dX9_floor_22 rfl (lv_at hl 1 rfl) ?_
      refine lv_lconst (v := 0) hx hb dX9_floor_23 (by decide) ?_
      refine W.lcmp hx hb dX9_floor_24 ?_
      refine lv_topi (fun z_11 ez_11 => ?_)
      refine lv_if_ge (tgt := 32) hx hb dX9_floor_25 (by decide) (fun c_12 => ?_) (fun c_12 => ?_)
      ·
        have lc_13 : (0 : Int64).toInt ≤ (p1 : Int64).toInt := lc_geI (by rw [← ez_11]; first | exact Or.inl c_12 | exact Or.inr c_12)
        refine lv_iconst (v := 0) hx hb dX9_floor_32 (by decide) ?_
        refine lv_icmp_eq (tgt := 40) hx hb dX9_floor_33 (by decide) (fun c_14 => ?_) (fun c_14 => absurd (by decide) c_14)
        refine lv_lconst (v := 0) hx hb dX9_floor_40 (by decide) ?_
        refine lv_lsub hx hb dX9_floor_41 ?_
        refine lv_topl (fun z_15 ez_15 => ?_)
        exact W.lret (v := z_15) hx hb hr (fun t ht hW => ⟨z_15, rfl, (fun hy => by have h0 : (0 : Int64).toInt = 0 := (by decide); rw [ez_15, ez_1]; exact lfl_3 hy (by have h9 := lc_10; omega)), ht⟩) (fun q h => by cases h) dX9_floor_42
      ·
        have lc_16 : (p1 : Int64).toInt < (0 : Int64).toInt := lc_ltI (by rw [← ez_11]; first | exact Or.inl c_12 | exact Or.inr c_12)
        refine lv_iconst (v := 1) hx hb dX9_floor_28 (by decide) ?_
        refine lv_goto (tgt := 33) hx hb dX9_floor_29 (by decide) ?_
        refine lv_icmp_eq (tgt := 40) hx hb dX9_floor_33 (by decide) (fun c_17 => absurd c_17 (by decide)) (fun c_17 => ?_)
        refine lv_lconst (v := 1) hx hb dX9_floor_36 (by decide) ?_
        refine lv_goto (tgt := 41) hx hb dX9_floor_37 (by decide) ?_
        refine lv_lsub hx hb dX9_floor_41 ?_
        refine lv_topl (fun z_18 ez_18 => ?_)
        exact W.lret (v := z_18) hx hb hr (fun t ht hW => ⟨z_18, rfl, (fun hy => by have h0 : (0 : Int64).toInt = 0 := (by decide); have h9 := lc_16; exfalso; omega), ht⟩) (fun q h => by cases h) dX9_floor_42
    ·
      have lc_19 : (p0 : Int64).toInt < (0 : Int64).toInt := lc_ltI (by rw [← ez_8]; first | exact Or.inl c_9 | exact Or.inr c_9)
      refine lv_iconst (v := 1) hx hb dX9_floor_17 (by decide) ?_
      refine lv_goto (tgt := 22) hx hb dX9_floor_18 (by decide) ?_
      refine lv_lload_n hx hb dX9_floor_22 rfl (lv_at hl 1 rfl) ?_
      refine lv_lconst (v := 0) hx hb dX9_floor_23 (by decide) ?_
      refine W.lcmp hx hb dX9_floor_24 ?_
      refine lv_topi (fun z_20 ez_20 => ?_)
      refine lv_if_ge (tgt := 32) hx hb dX9_floor_25 (by decide) (fun c_21 => ?_) (fun c_21 => ?_)
      ·
        have lc_22 : (0 : Int64).toInt ≤ (p1 : Int64).toInt := lc_geI (by rw [← ez_20]; first | exact Or.inl c_21 | exact Or.inr c_21)
        refine lv_iconst (v := 0) hx hb dX9_floor_32 (by decide) ?_
        refine lv_icmp_eq (tgt := 40) hx hb dX9_floor_33 (by decide) (fun c_23 => absurd c_23 (by decide)) (fun c_23 => ?_)
        refine lv_lconst (v := 1) hx hb dX9_floor_36 (by decide) ?_
        refine lv_goto (tgt := 41) hx hb dX9_floor_37 (by decide) ?_
        refine lv_lsub hx hb dX9_floor_41 ?_
        refine lv_topl (fun z_24 ez_24 => ?_)
        exact W.lret (v := z_24) hx hb hr (fun t ht hW => ⟨z_24, rfl, (fun hy => by have h0 : (0 : Int64).toInt = 0 := (by decide); rw [ez_24, ez_1]; exact lfl_2 hy (by have h9 := lc_19; omega) (fun h9 => lc_7 (ez_2.trans h9))), ht⟩) (fun q h => by cases h) dX9_floor_42
      ·
        have lc_25 : (p1 : Int64).toInt < (0 : Int64).toInt := lc_ltI (by rw [← ez_20]; first | exact Or.inl c_21 | exact Or.inr c_21)
        refine lv_iconst (v := 1) hx hb dX9_floor_28 (by decide) ?_
        refine lv_goto (tgt := 33) hx hb dX9_floor_29 (by decide) ?_
        refine lv_icmp_eq (tgt := 40) hx hb dX9_floor_33 (by decide) (fun c_26 => ?_) (fun c_26 => absurd (by decide) c_26)
        refine lv_lconst (v := 0) hx hb dX9_floor_40 (by decide) ?_
        refine lv_lsub hx hb dX9_floor_41 ?_
        refine lv_topl (fun z_27 ez_27 => ?_)
        exact W.lret (v := z_27) hx hb hr (fun t ht hW => ⟨z_27, rfl, (fun hy => by have h0 : (0 : Int64).toInt = 0 := (by decide); have h9 := lc_25; exfalso; omega), ht⟩) (fun q h => by cases h) dX9_floor_42
set_option maxHeartbeats 4000000 in
set_option maxRecDepth 100000 in
theorem g_X9_isLetter (l : Launch) (D : va_G) (E : Nat → Nat) (p0 : Int32)  : Met l yX9_isLetter (wl yX9_isLetter cX9_isLetter 1 (some .boolean)) (RM 0 0 0) (rd_P D E [.int p0] ([] : va_W)) (rd_Q (fun r => ((r = 1 ∧ (97 ≤ p0.toInt ∧ p0.toInt ≤ 122)) ∨ (r = 0 ∧ ¬ (97 ≤ p0.toInt ∧ p0.toInt ≤ 122))))) 0 0 (fun _ => False) := by
  refine Met.ofW (cc := cX9_isLetter) (maxL := 1) (ret := (some .boolean)) (by decide) rfl ?_
  intro p e s m args below meth c s₁ B hml hv
  obtain ⟨rfl, hP, hK⟩ := hv
  have hx := B.exec; have hb := B.bytes; have hr := B.returns
  have hts := atoms_spec (ws := wl yX9_isLetter cX9_isLetter 1 (some .boolean)) B.pre
  have htb : ∀ w ∈ tb, w.before _ s = true := fun w h => hts w (List.mem_cons_of_mem _ h)
  have hown : s.vm.findClass RX9 = some m.cls := findClass_of_methodNamed B.named
  have hlocks := B.notSynchronized
  have hP : va_P D vwCl ([] : va_W) s.heap := hP
  have hl := lv_entry ([.int p0]) (n := 1) (Nat.le_of_ble_eq_true rfl)
  rw [lg_entry_eq]
  generalize (lg_sl ([.int p0]) ++ List.replicate (1 - (lg_sl ([.int p0])).length) Slot.unset).toArray = ls at hl ⊢
  have hl : lv_has ls 1 [(0, .int p0)] := hl
  have lo_p0 := i_lo p0; have hi_p0 := i_hi p0
  refine lv_iload_n hx hb dX9_isLetter_0 rfl (lv_at hl 0 rfl) ?_
  refine lv_bipush (v := 97) hx hb dX9_isLetter_1 (by decide) ?_
  refine lv_icmp_lt (tgt := 16) hx hb dX9_isLetter_3 (by decide) (fun c_1 => ?_) (fun c_1 => ?_)
  ·
    have ic_1 : p0.toInt < 97 := by first | exact (g_lt rfl t_97).mp c_1 | (have h := mt (g_le t_97 rfl).mpr c_1; omega)
    clear c_1
    refine lv_iconst (v := 0) hx hb dX9_isLetter_16 (by decide) ?_
    exact W.zret (v := 0) hx hb hr rfl (fun t ht hW => ⟨0, rfl, by first | exact Or.inr ⟨rfl, by omega⟩ | (exfalso; omega), ht⟩) (fun q h => by cases h) dX9_isLetter_17
  ·
    have ic_1 : 97 ≤ p0.toInt := by first | exact (g_le t_97 rfl).mp c_1 | (have h := mt (g_lt rfl t_97).mpr c_1; omega)
    clear c_1
    refine lv_iload_n hx hb dX9_isLetter_6 rfl (lv_at hl 0 rfl) ?_
    refine lv_bipush (v := 122) hx hb dX9_isLetter_7 (by decide) ?_
    refine lv_icmp_gt (tgt := 16) hx hb dX9_isLetter_9 (by decide) (fun c_2 => ?_) (fun c_2 => ?_)
    ·
      have ic_2 : 122 < p0.toInt := by first | exact (g_lt t_122 rfl).mp c_2 | (have h := mt (g_le rfl t_122).mpr c_2; omega)
      clear c_2
      refine lv_iconst (v := 0) hx hb dX9_isLetter_16 (by decide) ?_
      exact W.zret (v := 0) hx hb hr rfl (fun t ht hW => ⟨0, rfl, by first | exact Or.inr ⟨rfl, by omega⟩ | (exfalso; omega), ht⟩) (fun q h => by cases h) dX9_isLetter_17
    ·
      have ic_2 : p0.toInt ≤ 122 := by first | exact (g_le rfl t_122).mp c_2 | (have h := mt (g_lt t_122 rfl).mpr c_2; omega)
      clear c_2
      refine lv_iconst (v := 1) hx hb dX9_isLetter_12 (by decide) ?_
      refine lv_goto (tgt := 17) hx hb dX9_isLetter_13 (by decide) ?_
      exact W.zret (v := 1) hx hb hr rfl (fun t ht hW => ⟨1, rfl, by first | exact Or.inl ⟨rfl, by omega⟩ | (exfalso; omega), ht⟩) (fun q h => by cases h) dX9_isLetter_17
set_option maxHeartbeats 4000000 in
set_option maxRecDepth 100000 in
theorem g_X9_isDigit (l : Launch) (D : va_G) (E : Nat → Nat) (p0 : Int32)  : Met l yX9_isDigit (wl yX9_isDigit cX9_isDigit 1 (some .boolean)) (RM 0 0 0) (rd_P D E [.int p0] ([] : va_W)) (rd_Q (fun r => ((r = 1 ∧ (48 ≤ p0.toInt ∧ p0.toInt ≤ 57)) ∨ (r = 0 ∧ ¬ (48 ≤ p0.toInt ∧ p0.toInt ≤ 57))))) 0 0 (fun _ => False) := by
  refine Met.ofW (cc := cX9_isDigit) (maxL := 1) (ret := (some .boolean)) (by decide) rfl ?_
  intro p e s m args below meth c s₁ B hml hv
  obtain ⟨rfl, hP, hK⟩ := hv
  have hx := B.exec; have hb := B.bytes; have hr := B.returns
  have hts := atoms_spec (ws := wl yX9_isDigit cX9_isDigit 1 (some .boolean)) B.pre
  have htb : ∀ w ∈ tb, w.before _ s = true := fun w h => hts w (List.mem_cons_of_mem _ h)
  have hown : s.vm.findClass RX9 = some m.cls := findClass_of_methodNamed B.named
  have hlocks := B.notSynchronized
  have hP : va_P D vwCl ([] : va_W) s.heap := hP
  have hl := lv_entry ([.int p0]) (n := 1) (Nat.le_of_ble_eq_true rfl)
  rw [lg_entry_eq]
  generalize (lg_sl ([.int p0]) ++ List.replicate (1 - (lg_sl ([.int p0])).length) Slot.unset).toArray = ls at hl ⊢
  have hl : lv_has ls 1 [(0, .int p0)] := hl
  have lo_p0 := i_lo p0; have hi_p0 := i_hi p0
  refine lv_iload_n hx hb dX9_isDigit_0 rfl (lv_at hl 0 rfl) ?_
  refine lv_bipush (v := 48) hx hb dX9_isDigit_1 (by decide) ?_
  refine lv_icmp_lt (tgt := 16) hx hb dX9_isDigit_3 (by decide) (fun c_1 => ?_) (fun c_1 => ?_)
  ·
    have ic_1 : p0.toInt < 48 := by first | exact (g_lt rfl t_48).mp c_1 | (have h := mt (g_le t_48 rfl).mpr c_1; omega)
    clear c_1
    refine lv_iconst (v := 0) hx hb dX9_isDigit_16 (by decide) ?_
    exact W.zret (v := 0) hx hb hr rfl (fun t ht hW => ⟨0, rfl, by first | exact Or.inr ⟨rfl, by omega⟩ | (exfalso; omega), ht⟩) (fun q h => by cases h) dX9_isDigit_17
  ·
    have ic_1 : 48 ≤ p0.toInt := by first | exact (g_le t_48 rfl).mp c_1 | (have h := mt (g_lt rfl t_48).mpr c_1; omega)
    clear c_1
    refine lv_iload_n hx hb dX9_isDigit_6 rfl (lv_at hl 0 rfl) ?_
    refine lv_bipush (v := 57) hx hb dX9_isDigit_7 (by decide) ?_
    refine lv_icmp_gt (tgt := 16) hx hb dX9_isDigit_9 (by decide) (fun c_2 => ?_) (fun c_2 => ?_)
    ·
      have ic_2 : 57 < p0.toInt := by first | exact (g_lt t_57 rfl).mp c_2 | (have h := mt (g_le rfl t_57).mpr c_2; omega)
      clear c_2
      refine lv_iconst (v := 0) hx hb dX9_isDigit_16 (by decide) ?_
      exact W.zret (v := 0) hx hb hr rfl (fun t ht hW => ⟨0, rfl, by first | exact Or.inr ⟨rfl, by omega⟩ | (exfalso; omega), ht⟩) (fun q h => by cases h) dX9_isDigit_17
    ·
      have ic_2 : p0.toInt ≤ 57 := by first | exact (g_le rfl t_57).mp c_2 | (have h := mt (g_lt t_57 rfl).mpr c_2; omega)
      clear c_2
      refine lv_iconst (v := 1) hx hb dX9_isDigit_12 (by decide) ?_
      refine lv_goto (tgt := 17) hx hb dX9_isDigit_13 (by decide) ?_
      exact W.zret (v := 1) hx hb hr rfl (fun t ht hW => ⟨1, rfl, by first | exact Or.inl ⟨rfl, by omega⟩ | (exfalso; omega), ht⟩) (fun q h => by cases h) dX9_isDigit_17
end
section
set_option maxHeartbeats 4000000 in
set_option maxRecDepth 100000 in
theorem g_X9_isWatch (l : Launch) (D : va_G) (E : Nat → Nat) (mh : Nat) (ma : Nat → Nat) (mcode : Int32) (mtoday : Int32) (moffs : Int32) (mmany : Int64) (msumW : Int64) (msumA : Int64) (msumR : Int64) (msumWW : Int64) (msumWA : Int64) (msumAA : Int64) (msumWR : Int64) (msumAR : Int64) (mupper : Int64) (mlower : Int64) (mrates : Int32) (mtaped : Int32) (mlaid : Int32) (mat : Int32) (mtk : Int32) (mtkAt : Int32) (mtkNumber : Int32) (mwaits : Int32) (mlisted : Int32) (mdealtMany : Int32) (mf3 : Nat → Int32) (p0 : Int32) (hi_m : (0 ≤ mtoday.toInt ∧ mtoday.toInt ≤ 399) ∧ (0 ≤ moffs.toInt ∧ moffs.toInt ≤ 60) ∧ (0 ≤ mrates.toInt ∧ mrates.toInt ≤ 60) ∧ (0 ≤ mtaped.toInt ∧ mtaped.toInt ≤ 120) ∧ (0 ≤ mlisted.toInt ∧ mlisted.toInt ≤ 9) ∧ (0 ≤ mdealtMany.toInt ∧ mdealtMany.toInt ≤ 9)) (g0 : 0 ≤ p0.toInt ∧ p0.toInt ≤ 15) : Met l yX9_isWatch (wl yX9_isWatch cX9_isWatch 2 (some .boolean)) (RM 0 0 0) (rd_P D E [.ref mh, .int p0] [(mh, .inr (9, G9 ma mcode mtoday moffs mmany msumW msumA msumR msumWW msumWA msumAA msumWR msumAR mupper mlower mrates mtaped mlaid mat mtk mtkAt mtkNumber mwaits mlisted mdealtMany)), ((ma 3), .inl (E 0, 16, .inl mf3))]) (rd_Q (fun r => ((r.toInt = 1 ∧ ((mf3 (p0).toNatClampNeg).toInt = 0 ∨ (mf3 (p0).toNatClampNeg).toInt = 1)) ∨ (r.toInt = 0 ∧ ¬ ((mf3 (p0).toNatClampNeg).toInt = 0 ∨ (mf3 (p0).toNatClampNeg).toInt = 1))))) 0 0 (fun _ => False) := by
  refine Met.ofW (cc := cX9_isWatch) (maxL := 2) (ret := (some .boolean)) (by decide) rfl ?_
  intro p e s m args below meth c s₁ B hml hv
  obtain ⟨rfl, hP, hK⟩ := hv
  have hx := B.exec; have hb := B.bytes; have hr := B.returns
  have hts := atoms_spec (ws := wl yX9_isWatch cX9_isWatch 2 (some .boolean)) B.pre
  have htb : ∀ w ∈ tb, w.before _ s = true := fun w h => hts w (List.mem_cons_of_mem _ h)
  have hown : s.vm.findClass RX9 = some m.cls := findClass_of_methodNamed B.named
  have hlocks := B.notSynchronized
  have hP : va_P D vwCl [(mh, .inr (9, G9 ma mcode mtoday moffs mmany msumW msumA msumR msumWW msumWA msumAA msumWR msumAR mupper mlower mrates mtaped mlaid mat mtk mtkAt mtkNumber mwaits mlisted mdealtMany)), ((ma 3), .inl (E 0, 16, .inl mf3))] s.heap := hP
  have hl := lv_entry ([.ref mh, .int p0]) (n := 2) (Nat.le_of_ble_eq_true rfl)
  rw [lg_entry_eq]
  generalize (lg_sl ([.ref mh, .int p0]) ++ List.replicate (2 - (lg_sl ([.ref mh, .int p0])).length) Slot.unset).toArray = ls at hl ⊢
  have hl : lv_has ls 2 [(0, .ref mh), (1, .int p0)] := hl
  have lo_p0 := i_lo p0; have hi_p0 := i_hi p0
  refine lv_aload_n hx hb dX9_isWatch_0 rfl (lv_at hl 0 rfl) ?_
  refine va_get (D := D) (ci := 9) (v := .ref (ma 3)) (C := RX9) (T := TX9) (N := 68) hx hb htb iX9 hown hK.1 hP 0 rfl rfl 3 (by decide) (htb _ k_961) (fun _ h9 => h9) rfl dX9_isWatch_1 ?_
  refine lv_iload_n hx hb dX9_isWatch_4 rfl (lv_at hl 1 rfl) ?_
  refine va_iald hx hb hK.1 hP 1 0 rfl rfl (g_in rfl (by omega) (by omega)) dX9_isWatch_5 ?_
  refine lv_topi (fun z_1 ez_1 => ?_)
  have kz_1 := congrArg Int32.toInt ez_1
  refine lv_if_eq (tgt := 19) hx hb dX9_isWatch_6 (by decide) (fun c_2 => ?_) (fun c_2 => ?_)
  ·
    have ic_2 : z_1.toInt = 0 := (g_eq rfl t_0).mp c_2
    clear c_2
    refine lv_iconst (v := 1) hx hb dX9_isWatch_19 (by decide) ?_
    refine lv_goto (tgt := 24) hx hb dX9_isWatch_20 (by decide) ?_
    exact W.zret (v := 1) hx hb hr rfl (fun t ht hW => ⟨1, rfl, (by have h0 := t_1; (try dsimp only); omega), ht⟩) (fun q h => by cases h) dX9_isWatch_24
  ·
    have ic_2 : z_1.toInt ≠ 0 := mt (g_eq rfl t_0).mpr c_2
    clear c_2
    refine lv_aload_n hx hb dX9_isWatch_9 rfl (lv_at hl 0 rfl) ?_
    refine va_get (D := D) (ci := 9) (v := .ref (ma 3)) (C := RX9) (T := TX9) (N := 68) hx hb htb iX9 hown hK.1 hP 0 rfl rfl 3 (by decide) (htb _ k_961) (fun _ h9 => h9) rfl dX9_isWatch_10 ?_
    refine lv_iload_n hx hb dX9_isWatch_13 rfl (lv_at hl 1 rfl) ?_
    refine va_iald hx hb hK.1 hP 1 0 rfl rfl (g_in rfl (by omega) (by omega)) dX9_isWatch_14 ?_
    refine lv_topi (fun z_3 ez_3 => ?_)
    have kz_3 := congrArg Int32.toInt ez_3
    refine lv_iconst (v := 1) hx hb dX9_isWatch_15 (by decide) ?_
    refine lv_icmp_ne (tgt := 23) hx hb dX9_isWatch_16 (by decide) (fun c_4 => ?_) (fun c_4 => ?_)
    ·
      have ic_4 : z_3.toInt ≠ 1 := mt (g_eq rfl t_1).mpr c_4
      clear c_4
      refine lv_iconst (v := 0) hx hb dX9_isWatch_23 (by decide) ?_
      exact W.zret (v := 0) hx hb hr rfl (fun t ht hW => ⟨0, rfl, (by have h0 := t_0; (try dsimp only); omega), ht⟩) (fun q h => by cases h) dX9_isWatch_24
    ·
      have ic_4 : z_3.toInt = 1 := (g_eq rfl t_1).mp c_4
      clear c_4
      refine lv_iconst (v := 1) hx hb dX9_isWatch_19 (by decide) ?_
      refine lv_goto (tgt := 24) hx hb dX9_isWatch_20 (by decide) ?_
      exact W.zret (v := 1) hx hb hr rfl (fun t ht hW => ⟨1, rfl, (by have h0 := t_1; (try dsimp only); omega), ht⟩) (fun q h => by cases h) dX9_isWatch_24
set_option maxHeartbeats 4000000 in
set_option maxRecDepth 100000 in
theorem g_X9_watchAt (l : Launch) (D : va_G) (E : Nat → Nat) (mh : Nat) (ma : Nat → Nat) (mcode : Int32) (mtoday : Int32) (moffs : Int32) (mmany : Int64) (msumW : Int64) (msumA : Int64) (msumR : Int64) (msumWW : Int64) (msumWA : Int64) (msumAA : Int64) (msumWR : Int64) (msumAR : Int64) (mupper : Int64) (mlower : Int64) (mrates : Int32) (mtaped : Int32) (mlaid : Int32) (mat : Int32) (mtk : Int32) (mtkAt : Int32) (mtkNumber : Int32) (mwaits : Int32) (mlisted : Int32) (mdealtMany : Int32) (mf3 : Nat → Int32) (p0 : Int32) (hi_m : (0 ≤ mtoday.toInt ∧ mtoday.toInt ≤ 399) ∧ (0 ≤ moffs.toInt ∧ moffs.toInt ≤ 60) ∧ (0 ≤ mrates.toInt ∧ mrates.toInt ≤ 60) ∧ (0 ≤ mtaped.toInt ∧ mtaped.toInt ≤ 120) ∧ (0 ≤ mlisted.toInt ∧ mlisted.toInt ≤ 9) ∧ (0 ≤ mdealtMany.toInt ∧ mdealtMany.toInt ≤ 9)) : Met l yX9_watchAt (wl yX9_watchAt cX9_watchAt 2 (some .int)) (RM 2 0 0) (rd_P D E [.ref mh, .int p0] [(mh, .inr (9, G9 ma mcode mtoday moffs mmany msumW msumA msumR msumWW msumWA msumAA msumWR msumAR mupper mlower mrates mtaped mlaid mat mtk mtkAt mtkNumber mwaits mlisted mdealtMany)), ((ma 3), .inl (E 0, 16, .inl mf3))]) (rd_Q (fun r => (((¬ (0 ≤ p0.toInt ∧ p0.toInt ≤ 15) ∧ r.toInt = -1) ∨ ((0 ≤ p0.toInt ∧ p0.toInt ≤ 15) ∧ (mf3 (p0).toNatClampNeg).toInt = -5 ∧ r.toInt = -2) ∨ ((0 ≤ p0.toInt ∧ p0.toInt ≤ 15) ∧ (mf3 (p0).toNatClampNeg).toInt = 2 ∧ r.toInt = -3) ∨ ((0 ≤ p0.toInt ∧ p0.toInt ≤ 15) ∧ (mf3 (p0).toNatClampNeg).toInt ≠ -5 ∧ (mf3 (p0).toNatClampNeg).toInt ≠ 2 ∧ r.toInt = 0))))) 0 0 (fun _ => False) := by
  refine Met.ofW (cc := cX9_watchAt) (maxL := 2) (ret := (some .int)) (by decide) rfl ?_
  intro p e s m args below meth c s₁ B hml hv
  obtain ⟨rfl, hP, hK⟩ := hv
  have hx := B.exec; have hb := B.bytes; have hr := B.returns
  have hts := atoms_spec (ws := wl yX9_watchAt cX9_watchAt 2 (some .int)) B.pre
  have htb : ∀ w ∈ tb, w.before _ s = true := fun w h => hts w (List.mem_cons_of_mem _ h)
  have hown : s.vm.findClass RX9 = some m.cls := findClass_of_methodNamed B.named
  have hlocks := B.notSynchronized
  have hP : va_P D vwCl [(mh, .inr (9, G9 ma mcode mtoday moffs mmany msumW msumA msumR msumWW msumWA msumAA msumWR msumAR mupper mlower mrates mtaped mlaid mat mtk mtkAt mtkNumber mwaits mlisted mdealtMany)), ((ma 3), .inl (E 0, 16, .inl mf3))] s.heap := hP
  have hl := lv_entry ([.ref mh, .int p0]) (n := 2) (Nat.le_of_ble_eq_true rfl)
  rw [lg_entry_eq]
  generalize (lg_sl ([.ref mh, .int p0]) ++ List.replicate (2 - (lg_sl ([.ref mh, .int p0])).length) Slot.unset).toArray = ls at hl ⊢
  have hl : lv_has ls 2 [(0, .ref mh), (1, .int p0)] := hl
  have lo_p0 := i_lo p0; have hi_p0 := i_hi p0
  refine lv_iload_n hx hb dX9_watchAt_0 rfl (lv_at hl 1 rfl) ?_
  refine callRS (rest := []) (As := [.int p0]) hx hb hml hown htb hK (g_X9_isPlace l D E p0 ) ok_X9_isPlace k_1182 k_1183 k_9 k_1184 ⟨(Nat.le_of_ble_eq_true rfl), (Nat.le_of_ble_eq_true rfl)⟩ ⟨(Nat.le_of_ble_eq_true rfl), (Nat.le_of_ble_eq_true rfl)⟩ hl.1 (Nat.le_of_ble_eq_true rfl) rfl rfl dX9_watchAt_1 (hP.sub (ws' := ([] : va_W)) [] rfl) (fun r_1 hw_2 => ?_)
  rcases hw_2 with ⟨hr_1, hw_2⟩ | ⟨hr_1, hw_2⟩
  ·
    refine W_top (y := .int 1) (by rw [hr_1]) ?_
    refine lv_if_ne (tgt := 11) hx hb dX9_watchAt_4 (by decide) (fun c_4 => ?_) (fun c_4 => absurd c_4 (by decide))
    refine lv_aload_n hx hb dX9_watchAt_11 rfl (lv_at hl 0 rfl) ?_
    refine va_get (D := D) (ci := 9) (v := .ref (ma 3)) (C := RX9) (T := TX9) (N := 68) hx hb htb iX9 hown hK.1 hP 0 rfl rfl 3 (by decide) (htb _ k_961) (fun _ h9 => h9) rfl dX9_watchAt_12 ?_
    refine lv_iload_n hx hb dX9_watchAt_15 rfl (lv_at hl 1 rfl) ?_
    refine va_iald hx hb hK.1 hP 1 0 rfl rfl (g_in rfl (by omega) (by omega)) dX9_watchAt_16 ?_
    refine lv_topi (fun z_5 ez_5 => ?_)
    have kz_5 := congrArg Int32.toInt ez_5
    refine lv_bipush (v := (-5)) hx hb dX9_watchAt_17 (by decide) ?_
    refine lv_icmp_ne (tgt := 27) hx hb dX9_watchAt_19 (by decide) (fun c_6 => ?_) (fun c_6 => ?_)
    ·
      have ic_6 : z_5.toInt ≠ -5 := mt (g_eq rfl t_m5).mpr c_6
      clear c_6
      refine lv_aload_n hx hb dX9_watchAt_27 rfl (lv_at hl 0 rfl) ?_
      refine va_get (D := D) (ci := 9) (v := .ref (ma 3)) (C := RX9) (T := TX9) (N := 68) hx hb htb iX9 hown hK.1 hP 0 rfl rfl 3 (by decide) (htb _ k_961) (fun _ h9 => h9) rfl dX9_watchAt_28 ?_
      refine lv_iload_n hx hb dX9_watchAt_31 rfl (lv_at hl 1 rfl) ?_
      refine va_iald hx hb hK.1 hP 1 0 rfl rfl (g_in rfl (by omega) (by omega)) dX9_watchAt_32 ?_
      refine lv_topi (fun z_7 ez_7 => ?_)
      have kz_7 := congrArg Int32.toInt ez_7
      refine lv_iconst (v := 2) hx hb dX9_watchAt_33 (by decide) ?_
      refine lv_icmp_ne (tgt := 42) hx hb dX9_watchAt_34 (by decide) (fun c_8 => ?_) (fun c_8 => ?_)
      ·
        have ic_8 : z_7.toInt ≠ 2 := mt (g_eq rfl t_2).mpr c_8
        clear c_8
        refine lv_iconst (v := 0) hx hb dX9_watchAt_42 (by decide) ?_
        exact W.iret (v := 0) hx hb hr (fun t ht hW => ⟨0, rfl, (by have h0 := t_0; (try dsimp only); omega), ht⟩) (fun q h => by cases h) dX9_watchAt_43
      ·
        have ic_8 : z_7.toInt = 2 := (g_eq rfl t_2).mp c_8
        clear c_8
        refine lv_bipush (v := (-3)) hx hb dX9_watchAt_37 (by decide) ?_
        refine lv_goto (tgt := 43) hx hb dX9_watchAt_39 (by decide) ?_
        exact W.iret (v := (-3)) hx hb hr (fun t ht hW => ⟨(-3), rfl, (by have h0 := t_m3; (try dsimp only); omega), ht⟩) (fun q h => by cases h) dX9_watchAt_43
    ·
      have ic_6 : z_5.toInt = -5 := (g_eq rfl t_m5).mp c_6
      clear c_6
      refine lv_bipush (v := (-2)) hx hb dX9_watchAt_22 (by decide) ?_
      refine lv_goto (tgt := 43) hx hb dX9_watchAt_24 (by decide) ?_
      exact W.iret (v := (-2)) hx hb hr (fun t ht hW => ⟨(-2), rfl, (by have h0 := t_m2; (try dsimp only); omega), ht⟩) (fun q h => by cases h) dX9_watchAt_43
  ·
    refine W_top (y := .int 0) (by rw [hr_1]) ?_
    refine lv_if_ne (tgt := 11) hx hb dX9_watchAt_4 (by decide) (fun c_9 => absurd (by decide) c_9) (fun c_9 => ?_)
    refine lv_iconst (v := (-1)) hx hb dX9_watchAt_7 (by decide) ?_
    refine lv_goto (tgt := 43) hx hb dX9_watchAt_8 (by decide) ?_
    exact W.iret (v := (-1)) hx hb hr (fun t ht hW => ⟨(-1), rfl, (by have h0 := t_m1; (try dsimp only); omega), ht⟩) (fun q h => by cases h) dX9_watchAt_43
set_option maxHeartbeats 4000000 in
set_option maxRecDepth 100000 in
theorem g_X9_holderNow (l : Launch) (D : va_G) (E : Nat → Nat) (mh : Nat) (ma : Nat → Nat) (mcode : Int32) (mtoday : Int32) (moffs : Int32) (mmany : Int64) (msumW : Int64) (msumA : Int64) (msumR : Int64) (msumWW : Int64) (msumWA : Int64) (msumAA : Int64) (msumWR : Int64) (msumAR : Int64) (mupper : Int64) (mlower : Int64) (mrates : Int32) (mtaped : Int32) (mlaid : Int32) (mat : Int32) (mtk : Int32) (mtkAt : Int32) (mtkNumber : Int32) (mwaits : Int32) (mlisted : Int32) (mdealtMany : Int32) (mf10 : Nat → Int32) (p0 : Int32) (hi_m : (0 ≤ mtoday.toInt ∧ mtoday.toInt ≤ 399) ∧ (0 ≤ moffs.toInt ∧ moffs.toInt ≤ 60) ∧ (0 ≤ mrates.toInt ∧ mrates.toInt ≤ 60) ∧ (0 ≤ mtaped.toInt ∧ mtaped.toInt ≤ 120) ∧ (0 ≤ mlisted.toInt ∧ mlisted.toInt ≤ 9) ∧ (0 ≤ mdealtMany.toInt ∧ mdealtMany.toInt ≤ 9)) (g0 : 0 ≤ p0.toInt ∧ p0.toInt ≤ 15) : Met l yX9_holderNow (wl yX9_holderNow cX9_holderNow 2 (some .int)) (RM 0 0 0) (rd_P D E [.ref mh, .int p0] [(mh, .inr (9, G9 ma mcode mtoday moffs mmany msumW msumA msumR msumWW msumWA msumAA msumWR msumAR mupper mlower mrates mtaped mlaid mat mtk mtkAt mtkNumber mwaits mlisted mdealtMany)), ((ma 10), .inl (E 0, 6400, .inl mf10))]) (rd_Q (fun r => (r = mf10 (400 * p0 + mtoday).toNatClampNeg))) 0 0 (fun _ => False) := by
  refine Met.ofW (cc := cX9_holderNow) (maxL := 2) (ret := (some .int)) (by decide) rfl ?_
  intro p e s m args below meth c s₁ B hml hv
  obtain ⟨rfl, hP, hK⟩ := hv
  have hx := B.exec; have hb := B.bytes; have hr := B.returns
  have hts := atoms_spec (ws := wl yX9_holderNow cX9_holderNow 2 (some .int)) B.pre
  have htb : ∀ w ∈ tb, w.before _ s = true := fun w h => hts w (List.mem_cons_of_mem _ h)
  have hown : s.vm.findClass RX9 = some m.cls := findClass_of_methodNamed B.named
  have hlocks := B.notSynchronized
  have hP : va_P D vwCl [(mh, .inr (9, G9 ma mcode mtoday moffs mmany msumW msumA msumR msumWW msumWA msumAA msumWR msumAR mupper mlower mrates mtaped mlaid mat mtk mtkAt mtkNumber mwaits mlisted mdealtMany)), ((ma 10), .inl (E 0, 6400, .inl mf10))] s.heap := hP
  have hl := lv_entry ([.ref mh, .int p0]) (n := 2) (Nat.le_of_ble_eq_true rfl)
  rw [lg_entry_eq]
  generalize (lg_sl ([.ref mh, .int p0]) ++ List.replicate (2 - (lg_sl ([.ref mh, .int p0])).length) Slot.unset).toArray = ls at hl ⊢
  have hl : lv_has ls 2 [(0, .ref mh), (1, .int p0)] := hl
  have lo_p0 := i_lo p0; have hi_p0 := i_hi p0
  refine lv_aload_n hx hb dX9_holderNow_0 rfl (lv_at hl 0 rfl) ?_
  refine va_get (D := D) (ci := 9) (v := .ref (ma 10)) (C := RX9) (T := TX9) (N := 68) hx hb htb iX9 hown hK.1 hP 0 rfl rfl 10 (by decide) (htb _ k_968) (fun _ h9 => h9) rfl dX9_holderNow_1 ?_
  refine lv_sipush (v := 400) hx hb dX9_holderNow_4 (by decide) ?_
  refine lv_iload_n hx hb dX9_holderNow_7 rfl (lv_at hl 1 rfl) ?_
  refine lv_imul hx hb dX9_holderNow_8 ?_
  refine lv_topi (fun z_1 ez_1 => ?_)
  have jz_1 : z_1.toInt = 400 * p0.toInt := by rw [ez_1]; exact g_mul t_400 rfl (by omega) (by omega)
  refine lv_aload_n hx hb dX9_holderNow_9 rfl (lv_at hl 0 rfl) ?_
  refine va_get (D := D) (ci := 9) (v := .int mtoday) (C := RX9) (T := TX9) (N := 68) hx hb htb iX9 hown hK.1 hP 0 rfl rfl 1 (by decide) (htb _ k_959) (fun _ h9 => h9) rfl dX9_holderNow_10 ?_
  refine lv_iadd hx hb dX9_holderNow_13 ?_
  refine lv_topi (fun z_2 ez_2 => ?_)
  have jz_2 : z_2.toInt = z_1.toInt + mtoday.toInt := by rw [ez_2]; exact g_add rfl rfl (by omega) (by omega)
  refine va_iald hx hb hK.1 hP 1 0 rfl rfl (g_in rfl (by omega) (by omega)) dX9_holderNow_14 ?_
  refine lv_topi (fun z_3 ez_3 => ?_)
  have kz_3 := congrArg Int32.toInt ez_3
  exact W.iret (v := z_3) hx hb hr (fun t ht hW => ⟨z_3, rfl, (by subst_vars; rfl), ht⟩) (fun q h => by cases h) dX9_holderNow_15
set_option maxHeartbeats 4000000 in
set_option maxRecDepth 100000 in
theorem g_X9_goesTo (l : Launch) (D : va_G) (E : Nat → Nat) (mh : Nat) (ma : Nat → Nat) (mcode : Int32) (mtoday : Int32) (moffs : Int32) (mmany : Int64) (msumW : Int64) (msumA : Int64) (msumR : Int64) (msumWW : Int64) (msumWA : Int64) (msumAA : Int64) (msumWR : Int64) (msumAR : Int64) (mupper : Int64) (mlower : Int64) (mrates : Int32) (mtaped : Int32) (mlaid : Int32) (mat : Int32) (mtk : Int32) (mtkAt : Int32) (mtkNumber : Int32) (mwaits : Int32) (mlisted : Int32) (mdealtMany : Int32) (mf10 : Nat → Int32) (p0 : Int32) (p1 : Int32) (sz : Nat) (hi_m : (0 ≤ mtoday.toInt ∧ mtoday.toInt ≤ 399) ∧ (0 ≤ moffs.toInt ∧ moffs.toInt ≤ 60) ∧ (0 ≤ mrates.toInt ∧ mrates.toInt ≤ 60) ∧ (0 ≤ mtaped.toInt ∧ mtaped.toInt ≤ 120) ∧ (0 ≤ mlisted.toInt ∧ mlisted.toInt ≤ 9) ∧ (0 ≤ mdealtMany.toInt ∧ mdealtMany.toInt ≤ 9)) (g0 : 0 ≤ p0.toInt ∧ p0.toInt ≤ 15) : Met l yX9_goesTo (wl yX9_goesTo cX9_goesTo 3 none) (RM 0 0 0) (mu_P D E [.ref mh, .int p0, .int p1] [(mh, .inr (9, G9 ma mcode mtoday moffs mmany msumW msumA msumR msumWW msumWA msumAA msumWR msumAR mupper mlower mrates mtaped mlaid mat mtk mtkAt mtkNumber mwaits mlisted mdealtMany)), ((ma 10), .inl (E 0, 6400, .inl mf10))] sz) (va_Qv (fun (u : (Nat → Int32)) => (u = upd mf10 (400 * p0 + mtoday).toNatClampNeg p1)) (mu_B D (va_A [(mh, .inr (9, G9 ma mcode mtoday moffs mmany msumW msumA msumR msumWW msumWA msumAA msumWR msumAR mupper mlower mrates mtaped mlaid mat mtk mtkAt mtkNumber mwaits mlisted mdealtMany)), ((ma 10), .inl (E 0, 6400, .inl mf10))] sz) (fun (u : (Nat → Int32)) => [(mh, .inr (9, G9 ma mcode mtoday moffs mmany msumW msumA msumR msumWW msumWA msumAA msumWR msumAR mupper mlower mrates mtaped mlaid mat mtk mtkAt mtkNumber mwaits mlisted mdealtMany)), ((ma 10), .inl (E 0, 6400, .inl u))])) (va_A [(mh, .inr (9, G9 ma mcode mtoday moffs mmany msumW msumA msumR msumWW msumWA msumAA msumWR msumAR mupper mlower mrates mtaped mlaid mat mtk mtkAt mtkNumber mwaits mlisted mdealtMany)), ((ma 10), .inl (E 0, 6400, .inl mf10))] sz)) 0 0 (va_A [(mh, .inr (9, G9 ma mcode mtoday moffs mmany msumW msumA msumR msumWW msumWA msumAA msumWR msumAR mupper mlower mrates mtaped mlaid mat mtk mtkAt mtkNumber mwaits mlisted mdealtMany)), ((ma 10), .inl (E 0, 6400, .inl mf10))] sz) := by
  refine Met.ofW (cc := cX9_goesTo) (maxL := 3) (ret := none) (by decide) rfl ?_
  intro p e s m args below meth c s₁ B hml hv
  obtain ⟨rfl, hsz, hP, hK, hD0⟩ := hv
  have hx := B.exec; have hb := B.bytes; have hr := B.returns
  have hts := atoms_spec (ws := wl yX9_goesTo cX9_goesTo 3 none) B.pre
  have htb : ∀ w ∈ tb, w.before _ s = true := fun w h => hts w (List.mem_cons_of_mem _ h)
  have hown : s.vm.findClass RX9 = some m.cls := findClass_of_methodNamed B.named
  have hlocks := B.notSynchronized
  subst hsz
  have hD := hD0.self (sz := s.heap.size)
  generalize hAe : va_A [(mh, .inr (9, G9 ma mcode mtoday moffs mmany msumW msumA msumR msumWW msumWA msumAA msumWR msumAR mupper mlower mrates mtaped mlaid mat mtk mtkAt mtkNumber mwaits mlisted mdealtMany)), ((ma 10), .inl (E 0, 6400, .inl mf10))] s.heap.size = A at hD ⊢
  have hA : ∀ q : Nat, s.heap.size ≤ q → A q := fun q h => by rw [← hAe]; exact Or.inr h
  have hS : va_S A s.heap s.heap [] := va_S.rf
  have hP : va_P D vwCl [(mh, .inr (9, G9 ma mcode mtoday moffs mmany msumW msumA msumR msumWW msumWA msumAA msumWR msumAR mupper mlower mrates mtaped mlaid mat mtk mtkAt mtkNumber mwaits mlisted mdealtMany)), ((ma 10), .inl (E 0, 6400, .inl mf10))] s.heap := hP
  have hl := lv_entry ([.ref mh, .int p0, .int p1]) (n := 3) (Nat.le_of_ble_eq_true rfl)
  rw [lg_entry_eq]
  generalize (lg_sl ([.ref mh, .int p0, .int p1]) ++ List.replicate (3 - (lg_sl ([.ref mh, .int p0, .int p1])).length) Slot.unset).toArray = ls at hl ⊢
  have hl : lv_has ls 3 [(0, .ref mh), (1, .int p0), (2, .int p1)] := hl
  have lo_p0 := i_lo p0; have hi_p0 := i_hi p0
  have lo_p1 := i_lo p1; have hi_p1 := i_hi p1
  refine lv_aload_n hx hb dX9_goesTo_0 rfl (lv_at hl 0 rfl) ?_
  refine va_get (D := D) (ci := 9) (v := .ref (ma 10)) (C := RX9) (T := TX9) (N := 68) hx hb htb iX9 hown hK.1 hP 0 rfl rfl 10 (by decide) (htb _ k_968) (fun _ h9 => h9) rfl dX9_goesTo_1 ?_
  refine lv_sipush (v := 400) hx hb dX9_goesTo_4 (by decide) ?_
  refine lv_iload_n hx hb dX9_goesTo_7 rfl (lv_at hl 1 rfl) ?_
  refine lv_imul hx hb dX9_goesTo_8 ?_
  refine lv_topi (fun z_1 ez_1 => ?_)
  have jz_1 : z_1.toInt = 400 * p0.toInt := by rw [ez_1]; exact g_mul t_400 rfl (by omega) (by omega)
  refine lv_aload_n hx hb dX9_goesTo_9 rfl (lv_at hl 0 rfl) ?_
  refine va_get (D := D) (ci := 9) (v := .int mtoday) (C := RX9) (T := TX9) (N := 68) hx hb htb iX9 hown hK.1 hP 0 rfl rfl 1 (by decide) (htb _ k_959) (fun _ h9 => h9) rfl dX9_goesTo_10 ?_
  refine lv_iadd hx hb dX9_goesTo_13 ?_
  refine lv_topi (fun z_2 ez_2 => ?_)
  have jz_2 : z_2.toInt = z_1.toInt + mtoday.toInt := by rw [ez_2]; exact g_add rfl rfl (by omega) (by omega)
  refine lv_iload_n hx hb dX9_goesTo_14 rfl (lv_at hl 2 rfl) ?_
  refine va_iast hx hb hK.1 hP hD hS 1 0 rfl rfl (g_in rfl (by omega) (by omega)) dX9_goesTo_15 (fun H locs hP hD hS => ?_)
  have hP : va_P D vwCl [(mh, .inr (9, G9 ma mcode mtoday moffs mmany msumW msumA msumR msumWW msumWA msumAA msumWR msumAR mupper mlower mrates mtaped mlaid mat mtk mtkAt mtkNumber mwaits mlisted mdealtMany)), ((ma 10), .inl (E 0, 6400, .inl (upd mf10 (z_2 : Int32).toNatClampNeg p1)))] H := hP
  have hD := toW hP hD rfl
  have hP9 := hP.sub (ws' := [(mh, .inr (9, G9 ma mcode mtoday moffs mmany msumW msumA msumR msumWW msumWA msumAA msumWR msumAR mupper mlower mrates mtaped mlaid mat mtk mtkAt mtkNumber mwaits mlisted mdealtMany)), ((ma 10), .inl (E 0, 6400, .inl (upd mf10 (z_2 : Int32).toNatClampNeg p1)))]) [0, 1] rfl
  have hD9 := hD.sub (ws' := [(mh, .inr (9, G9 ma mcode mtoday moffs mmany msumW msumA msumR msumWW msumWA msumAA msumWR msumAR mupper mlower mrates mtaped mlaid mat mtk mtkAt mtkNumber mwaits mlisted mdealtMany)), ((ma 10), .inl (E 0, 6400, .inl (upd mf10 (z_2 : Int32).toNatClampNeg p1)))]) [0, 1] (by decide) rfl
  exact W.vret hx hb hr (fun t ht hW => ⟨⟨(upd mf10 (z_2 : Int32).toNatClampNeg p1), rfl, (by (try dsimp only); subst_vars; rfl), by rw [ht]; exact hP9, hD9⟩, hS.F ht⟩) hS.2.2 dX9_goesTo_16
end
section
set_option maxHeartbeats 4000000 in
set_option maxRecDepth 100000 in
theorem g_X9_days (l : Launch) (D : va_G) (E : Nat → Nat) (mh : Nat) (ma : Nat → Nat) (mcode : Int32) (mtoday : Int32) (moffs : Int32) (mmany : Int64) (msumW : Int64) (msumA : Int64) (msumR : Int64) (msumWW : Int64) (msumWA : Int64) (msumAA : Int64) (msumWR : Int64) (msumAR : Int64) (mupper : Int64) (mlower : Int64) (mrates : Int32) (mtaped : Int32) (mlaid : Int32) (mat : Int32) (mtk : Int32) (mtkAt : Int32) (mtkNumber : Int32) (mwaits : Int32) (mlisted : Int32) (mdealtMany : Int32) (mf10 : Nat → Int32) (p0 : Int32) (sz : Nat) (hi_m : (0 ≤ mtoday.toInt ∧ mtoday.toInt ≤ 399) ∧ (0 ≤ moffs.toInt ∧ moffs.toInt ≤ 60) ∧ (0 ≤ mrates.toInt ∧ mrates.toInt ≤ 60) ∧ (0 ≤ mtaped.toInt ∧ mtaped.toInt ≤ 120) ∧ (0 ≤ mlisted.toInt ∧ mlisted.toInt ≤ 9) ∧ (0 ≤ mdealtMany.toInt ∧ mdealtMany.toInt ≤ 9)) : Met l yX9_days (wl yX9_days cX9_days 4 (some .int)) (RM 1 0 0) (mu_P D E [.ref mh, .int p0] [(mh, .inr (9, G9 ma mcode mtoday moffs mmany msumW msumA msumR msumWW msumWA msumAA msumWR msumAR mupper mlower mrates mtaped mlaid mat mtk mtkAt mtkNumber mwaits mlisted mdealtMany)), ((ma 10), .inl (E 0, 6400, .inl mf10))] sz) (va_Qi (fun (r : Int32) (u : (Nat → Int32) × (Int32)) => (0 ≤ u.2.toInt ∧ u.2.toInt ≤ 399) ∧ (((1 ≤ p0.toInt ∧ p0.toInt ≤ 100 ∧ mtoday.toInt + p0.toInt ≤ 399) ∧ r.toInt = mtoday.toInt + p0.toInt ∧ u.2.toInt = r.toInt ∧ HD2 mf10 u.1 mtoday.toInt u.2.toInt 0) ∨ (¬ (1 ≤ p0.toInt ∧ p0.toInt ≤ 100 ∧ mtoday.toInt + p0.toInt ≤ 399) ∧ r.toInt = -1 ∧ u.2.toInt = mtoday.toInt ∧ u.1 = mf10))) (mu_B D (va_A [(mh, .inr (9, G9 ma mcode mtoday moffs mmany msumW msumA msumR msumWW msumWA msumAA msumWR msumAR mupper mlower mrates mtaped mlaid mat mtk mtkAt mtkNumber mwaits mlisted mdealtMany)), ((ma 10), .inl (E 0, 6400, .inl mf10))] sz) (fun (u : (Nat → Int32) × (Int32)) => [(mh, .inr (9, G9 ma mcode u.2 moffs mmany msumW msumA msumR msumWW msumWA msumAA msumWR msumAR mupper mlower mrates mtaped mlaid mat mtk mtkAt mtkNumber mwaits mlisted mdealtMany)), ((ma 10), .inl (E 0, 6400, .inl u.1))])) (va_A [(mh, .inr (9, G9 ma mcode mtoday moffs mmany msumW msumA msumR msumWW msumWA msumAA msumWR msumAR mupper mlower mrates mtaped mlaid mat mtk mtkAt mtkNumber mwaits mlisted mdealtMany)), ((ma 10), .inl (E 0, 6400, .inl mf10))] sz)) 0 0 (va_A [(mh, .inr (9, G9 ma mcode mtoday moffs mmany msumW msumA msumR msumWW msumWA msumAA msumWR msumAR mupper mlower mrates mtaped mlaid mat mtk mtkAt mtkNumber mwaits mlisted mdealtMany)), ((ma 10), .inl (E 0, 6400, .inl mf10))] sz) := by
  refine Met.ofW (cc := cX9_days) (maxL := 4) (ret := (some .int)) (by decide) rfl ?_
  intro p e s m args below meth c s₁ B hml hv
  obtain ⟨rfl, hsz, hP, hK, hD0⟩ := hv
  have hx := B.exec; have hb := B.bytes; have hr := B.returns
  have hts := atoms_spec (ws := wl yX9_days cX9_days 4 (some .int)) B.pre
  have htb : ∀ w ∈ tb, w.before _ s = true := fun w h => hts w (List.mem_cons_of_mem _ h)
  have hown : s.vm.findClass RX9 = some m.cls := findClass_of_methodNamed B.named
  have hlocks := B.notSynchronized
  subst hsz
  have hD := hD0.self (sz := s.heap.size)
  generalize hAe : va_A [(mh, .inr (9, G9 ma mcode mtoday moffs mmany msumW msumA msumR msumWW msumWA msumAA msumWR msumAR mupper mlower mrates mtaped mlaid mat mtk mtkAt mtkNumber mwaits mlisted mdealtMany)), ((ma 10), .inl (E 0, 6400, .inl mf10))] s.heap.size = A at hD ⊢
  have hA : ∀ q : Nat, s.heap.size ≤ q → A q := fun q h => by rw [← hAe]; exact Or.inr h
  have hS : va_S A s.heap s.heap [] := va_S.rf
  have hP : va_P D vwCl [(mh, .inr (9, G9 ma mcode mtoday moffs mmany msumW msumA msumR msumWW msumWA msumAA msumWR msumAR mupper mlower mrates mtaped mlaid mat mtk mtkAt mtkNumber mwaits mlisted mdealtMany)), ((ma 10), .inl (E 0, 6400, .inl mf10))] s.heap := hP
  have hl := lv_entry ([.ref mh, .int p0]) (n := 4) (Nat.le_of_ble_eq_true rfl)
  rw [lg_entry_eq]
  generalize (lg_sl ([.ref mh, .int p0]) ++ List.replicate (4 - (lg_sl ([.ref mh, .int p0])).length) Slot.unset).toArray = ls at hl ⊢
  have hl : lv_has ls 4 [(0, .ref mh), (1, .int p0)] := hl
  have lo_p0 := i_lo p0; have hi_p0 := i_hi p0
  refine lv_iload_n hx hb dX9_days_0 rfl (lv_at hl 1 rfl) ?_
  refine lv_iconst (v := 1) hx hb dX9_days_1 (by decide) ?_
  refine lv_bipush (v := 100) hx hb dX9_days_2 (by decide) ?_
  refine callRS (rest := []) (As := [.int p0, .int 1, .int 100]) hx hb hml hown htb hK (g_X9_in l D E p0 1 100 ) ok_X9_in k_1168 k_1169 k_9 k_1170 ⟨(Nat.le_of_ble_eq_true rfl), (Nat.le_of_ble_eq_true rfl)⟩ ⟨(Nat.le_of_ble_eq_true rfl), (Nat.le_of_ble_eq_true rfl)⟩ hl.1 (Nat.le_of_ble_eq_true rfl) rfl rfl dX9_days_4 (hP.sub (ws' := ([] : va_W)) [] rfl) (fun r_1 hw_2 => ?_)
  try simp only [t_1, t_100] at hw_2
  rcases hw_2 with ⟨hr_1, hw_2⟩ | ⟨hr_1, hw_2⟩
  ·
    try simp only [t_1, t_100] at hw_2
    refine W_top (y := .int 1) (by rw [hr_1]) ?_
    refine lv_if_eq (tgt := 22) hx hb dX9_days_7 (by decide) (fun c_4 => absurd c_4 (by decide)) (fun c_4 => ?_)
    refine lv_aload_n hx hb dX9_days_10 rfl (lv_at hl 0 rfl) ?_
    refine va_get (D := D) (ci := 9) (v := .int mtoday) (C := RX9) (T := TX9) (N := 68) hx hb htb iX9 hown hK.1 hP 0 rfl rfl 1 (by decide) (htb _ k_959) (fun _ h9 => h9) rfl dX9_days_11 ?_
    refine lv_iload_n hx hb dX9_days_14 rfl (lv_at hl 1 rfl) ?_
    refine lv_iadd hx hb dX9_days_15 ?_
    refine lv_topi (fun z_5 ez_5 => ?_)
    have jz_5 : z_5.toInt = mtoday.toInt + p0.toInt := by rw [ez_5]; exact g_add rfl rfl (by omega) (by omega)
    refine lv_sipush (v := 399) hx hb dX9_days_16 (by decide) ?_
    refine lv_icmp_le (tgt := 24) hx hb dX9_days_19 (by decide) (fun c_6 => ?_) (fun c_6 => ?_)
    ·
      have ic_6 : z_5.toInt ≤ 399 := by first | exact (g_le rfl t_399).mp c_6 | (have h := mt (g_lt t_399 rfl).mpr c_6; omega)
      clear c_6
      refine lv_iconst (v := 0) hx hb dX9_days_24 (by decide) ?_
      refine lv_istore_n (lv' := [(2, .int 0), (0, .ref mh), (1, .int p0)]) hx hb dX9_days_25 rfl hl (by decide) rfl (fun ls hl => ?_)
      have loop_7 : ∀ (N_9 : Nat) (L2_26 : Int32) (mtoday_26 : Int32) (mf10_26 : Nat → Int32) (H : Heap) (locs : List Loc) (ls : Array Slot), p0.toInt - L2_26.toInt < (N_9 : Int) → (0 ≤ mtoday_26.toInt ∧ mtoday_26.toInt ≤ 399) → (0 ≤ L2_26.toInt) → (mtoday_26.toInt = mtoday.toInt + L2_26.toInt) → (L2_26.toInt ≤ p0.toInt) → (HD2 mf10 mf10_26 mtoday.toInt mtoday_26.toInt 0) → va_P D vwCl [(mh, .inr (9, G9 ma mcode mtoday_26 moffs mmany msumW msumA msumR msumWW msumWA msumAA msumWR msumAR mupper mlower mrates mtaped mlaid mat mtk mtkAt mtkNumber mwaits mlisted mdealtMany)), ((ma 10), .inl (E 0, 6400, .inl mf10_26))] H → va_D A [(mh, .inr (9, G9 ma mcode mtoday_26 moffs mmany msumW msumA msumR msumWW msumWA msumAA msumWR msumAR mupper mlower mrates mtaped mlaid mat mtk mtkAt mtkNumber mwaits mlisted mdealtMany)), ((ma 10), .inl (E 0, 6400, .inl mf10_26))] → va_S A s.heap H locs → lv_has ls 4 [(2, .int L2_26), (0, .ref mh), (1, .int p0)] → W p l e (headSpec (wl yX9_days cX9_days 4 (some .int)) (RM 1 0 0)).room s m [Value.ref mh, .int p0].toArray below meth c H locs 0 0 (MQ below (va_Qi (fun (r : Int32) (u : (Nat → Int32) × (Int32)) => (0 ≤ u.2.toInt ∧ u.2.toInt ≤ 399) ∧ (((1 ≤ p0.toInt ∧ p0.toInt ≤ 100 ∧ mtoday.toInt + p0.toInt ≤ 399) ∧ r.toInt = mtoday.toInt + p0.toInt ∧ u.2.toInt = r.toInt ∧ HD2 mf10 u.1 mtoday.toInt u.2.toInt 0) ∨ (¬ (1 ≤ p0.toInt ∧ p0.toInt ≤ 100 ∧ mtoday.toInt + p0.toInt ≤ 399) ∧ r.toInt = -1 ∧ u.2.toInt = mtoday.toInt ∧ u.1 = mf10))) (mu_B D A (fun (u : (Nat → Int32) × (Int32)) => [(mh, .inr (9, G9 ma mcode u.2 moffs mmany msumW msumA msumR msumWW msumWA msumAA msumWR msumAR mupper mlower mrates mtaped mlaid mat mtk mtkAt mtkNumber mwaits mlisted mdealtMany)), ((ma 10), .inl (E 0, 6400, .inl u.1))])) A) [Value.ref mh, .int p0].toArray s 0 0 A) (F0 m 26 ls []) := by
        intro N_9
        induction N_9 with
        | zero => intro L2_26 mtoday_26 mf10_26 H locs ls hm v_mtoday_26 v0_26 v1_26 v2_26 v3_26 _ _ _ _; exfalso; omega
        | succ N_9 ih_8 =>
          intro L2_26 mtoday_26 mf10_26 H locs ls hm v_mtoday_26 v0_26 v1_26 v2_26 v3_26 hP hD hS hl
          have lo_L2_26 := i_lo L2_26; have hi_L2_26 := i_hi L2_26
          have lo_mtoday_26 := i_lo mtoday_26; have hi_mtoday_26 := i_hi mtoday_26
          refine lv_iload_n hx hb dX9_days_26 rfl (lv_at hl 0 rfl) ?_
          refine lv_iload_n hx hb dX9_days_27 rfl (lv_at hl 2 rfl) ?_
          refine lv_icmp_ge (tgt := 93) hx hb dX9_days_28 (by decide) (fun c_10 => ?_) (fun c_10 => ?_)
          ·
            have ic_10 : p0.toInt ≤ L2_26.toInt := by first | exact (g_le rfl rfl).mp c_10 | (have h := mt (g_lt rfl rfl).mpr c_10; omega)
            clear c_10
            refine lv_aload_n hx hb dX9_days_93 rfl (lv_at hl 1 rfl) ?_
            refine va_get (D := D) (ci := 9) (v := .int mtoday_26) (C := RX9) (T := TX9) (N := 68) hx hb htb iX9 hown hK.1 hP 0 rfl rfl 1 (by decide) (htb _ k_959) (fun _ h9 => h9) rfl dX9_days_94 ?_
            have hP9 := hP.sub (ws' := [(mh, .inr (9, G9 ma mcode mtoday_26 moffs mmany msumW msumA msumR msumWW msumWA msumAA msumWR msumAR mupper mlower mrates mtaped mlaid mat mtk mtkAt mtkNumber mwaits mlisted mdealtMany)), ((ma 10), .inl (E 0, 6400, .inl mf10_26))]) [0, 1] rfl
            have hD9 := hD.sub (ws' := [(mh, .inr (9, G9 ma mcode mtoday_26 moffs mmany msumW msumA msumR msumWW msumWA msumAA msumWR msumAR mupper mlower mrates mtaped mlaid mat mtk mtkAt mtkNumber mwaits mlisted mdealtMany)), ((ma 10), .inl (E 0, 6400, .inl mf10_26))]) [0, 1] (by decide) rfl
            exact W.iret (v := mtoday_26) hx hb hr (fun t ht hW => ⟨⟨mtoday_26, (mf10_26, mtoday_26), rfl, ⟨(by (try dsimp only); omega), (by (try dsimp only); first | exact Or.inl ⟨by omega, by omega, by omega, by assumption⟩ | exact Or.inr ⟨by omega, by omega, by omega, rfl⟩)⟩, by rw [ht]; exact hP9, hD9⟩, hS.F ht⟩) hS.2.2 dX9_days_97
          ·
            have ic_10 : L2_26.toInt < p0.toInt := by first | exact (g_lt rfl rfl).mp c_10 | (have h := mt (g_le rfl rfl).mpr c_10; omega)
            clear c_10
            refine lv_iconst (v := 0) hx hb dX9_days_31 (by decide) ?_
            refine lv_istore_n (lv' := [(3, .int 0), (2, .int L2_26), (0, .ref mh), (1, .int p0)]) hx hb dX9_days_32 rfl hl (by decide) rfl (fun ls hl => ?_)
            have loop_11 : ∀ (N_13 : Nat) (L3_33 : Int32) (mf10_33 : Nat → Int32) (H : Heap) (locs : List Loc) (ls : Array Slot), 16 - L3_33.toInt < (N_13 : Int) → (0 ≤ L3_33.toInt ∧ L3_33.toInt ≤ 16) → (HD2 mf10 mf10_33 mtoday.toInt mtoday_26.toInt L3_33.toInt) → va_P D vwCl [(mh, .inr (9, G9 ma mcode mtoday_26 moffs mmany msumW msumA msumR msumWW msumWA msumAA msumWR msumAR mupper mlower mrates mtaped mlaid mat mtk mtkAt mtkNumber mwaits mlisted mdealtMany)), ((ma 10), .inl (E 0, 6400, .inl mf10_33))] H → va_D A [(mh, .inr (9, G9 ma mcode mtoday_26 moffs mmany msumW msumA msumR msumWW msumWA msumAA msumWR msumAR mupper mlower mrates mtaped mlaid mat mtk mtkAt mtkNumber mwaits mlisted mdealtMany)), ((ma 10), .inl (E 0, 6400, .inl mf10_33))] → va_S A s.heap H locs → lv_has ls 4 [(3, .int L3_33), (2, .int L2_26), (0, .ref mh), (1, .int p0)] → W p l e (headSpec (wl yX9_days cX9_days 4 (some .int)) (RM 1 0 0)).room s m [Value.ref mh, .int p0].toArray below meth c H locs 0 0 (MQ below (va_Qi (fun (r : Int32) (u : (Nat → Int32) × (Int32)) => (0 ≤ u.2.toInt ∧ u.2.toInt ≤ 399) ∧ (((1 ≤ p0.toInt ∧ p0.toInt ≤ 100 ∧ mtoday.toInt + p0.toInt ≤ 399) ∧ r.toInt = mtoday.toInt + p0.toInt ∧ u.2.toInt = r.toInt ∧ HD2 mf10 u.1 mtoday.toInt u.2.toInt 0) ∨ (¬ (1 ≤ p0.toInt ∧ p0.toInt ≤ 100 ∧ mtoday.toInt + p0.toInt ≤ 399) ∧ r.toInt = -1 ∧ u.2.toInt = mtoday.toInt ∧ u.1 = mf10))) (mu_B D A (fun (u : (Nat → Int32) × (Int32)) => [(mh, .inr (9, G9 ma mcode u.2 moffs mmany msumW msumA msumR msumWW msumWA msumAA msumWR msumAR mupper mlower mrates mtaped mlaid mat mtk mtkAt mtkNumber mwaits mlisted mdealtMany)), ((ma 10), .inl (E 0, 6400, .inl u.1))])) A) [Value.ref mh, .int p0].toArray s 0 0 A) (F0 m 33 ls []) := by
              intro N_13
              induction N_13 with
              | zero => intro L3_33 mf10_33 H locs ls hm v0_33 v1_33 _ _ _ _; exfalso; omega
              | succ N_13 ih_12 =>
                intro L3_33 mf10_33 H locs ls hm v0_33 v1_33 hP hD hS hl
                have lo_L3_33 := i_lo L3_33; have hi_L3_33 := i_hi L3_33
                refine lv_iload_n hx hb dX9_days_33 rfl (lv_at hl 0 rfl) ?_
                refine lv_bipush (v := 16) hx hb dX9_days_34 (by decide) ?_
                refine lv_icmp_ge (tgt := 77) hx hb dX9_days_36 (by decide) (fun c_14 => ?_) (fun c_14 => ?_)
                ·
                  have ic_14 : 16 ≤ L3_33.toInt := by first | exact (g_le t_16 rfl).mp c_14 | (have h := mt (g_lt rfl t_16).mpr c_14; omega)
                  clear c_14
                  refine lv_aload_n hx hb dX9_days_77 rfl (lv_at hl 2 rfl) ?_
                  refine lv_dup hx hb dX9_days_78 rfl ?_
                  refine va_get (D := D) (ci := 9) (v := .int mtoday_26) (C := RX9) (T := TX9) (N := 68) hx hb htb iX9 hown hK.1 hP 0 rfl rfl 1 (by decide) (htb _ k_959) (fun _ h9 => h9) rfl dX9_days_79 ?_
                  refine lv_iconst (v := 1) hx hb dX9_days_82 (by decide) ?_
                  refine lv_iadd hx hb dX9_days_83 ?_
                  refine lv_topi (fun z_15 ez_15 => ?_)
                  have jz_15 : z_15.toInt = mtoday_26.toInt + 1 := by rw [ez_15]; exact g_add rfl t_1 (by omega) (by omega)
                  refine va_put (D := D) (ci := 9) (v := .int z_15) (ty := .int) (C := RX9) (T := TX9) (N := 68) hx hb htb iX9 tyX9 tyX9_ok nmX9 hown hK.1 hP hD hS 0 rfl rfl 1 (by decide) (htb _ k_959) (fun _ h9 => h9) rfl (by decide +kernel) rfl rfl (Nat.le_of_ble_eq_true rfl) dX9_days_84 (fun H locs hP hD hS => ?_)
                  have hP : va_P D vwCl [(mh, .inr (9, G9 ma mcode z_15 moffs mmany msumW msumA msumR msumWW msumWA msumAA msumWR msumAR mupper mlower mrates mtaped mlaid mat mtk mtkAt mtkNumber mwaits mlisted mdealtMany)), ((ma 10), .inl (E 0, 6400, .inl mf10_33))] H := hP
                  have hD := toW hP hD rfl
                  obtain ⟨z_16, ez_16⟩ : ∃ y : Int32, y = L2_26 + 1 := ⟨_, rfl⟩
                  have jz_16 : z_16.toInt = L2_26.toInt + 1 := by rw [ez_16]; exact g_add rfl t_1 (by omega) (by omega)
                  refine lv_iinc (v := z_16) (lv' := [(2, .int z_16), (3, .int L3_33), (0, .ref mh), (1, .int p0)]) hx hb dX9_days_87 hl (k := 1) rfl (by rw [ez_16]; rfl) (by decide) rfl (fun ls hl => ?_)
                  refine lv_goto (tgt := 26) hx hb dX9_days_90 (by decide) ?_
                  exact ih_8 z_16 z_15 mf10_33 _ _ _ (by (try dsimp only); omega) (by (try dsimp only); omega) (by (try dsimp only); omega) (by (try dsimp only); omega) (by (try dsimp only); omega) (HD2_e v1_33 (by omega) (by omega)) hP hD hS (lv_sub hl [0, 2, 3] rfl)
                ·
                  have ic_14 : L3_33.toInt < 16 := by first | exact (g_lt rfl t_16).mp c_14 | (have h := mt (g_le t_16 rfl).mpr c_14; omega)
                  clear c_14
                  refine lv_aload_n hx hb dX9_days_39 rfl (lv_at hl 2 rfl) ?_
                  refine va_get (D := D) (ci := 9) (v := .ref (ma 10)) (C := RX9) (T := TX9) (N := 68) hx hb htb iX9 hown hK.1 hP 0 rfl rfl 10 (by decide) (htb _ k_968) (fun _ h9 => h9) rfl dX9_days_40 ?_
                  refine lv_sipush (v := 400) hx hb dX9_days_43 (by decide) ?_
                  refine lv_iload_n hx hb dX9_days_46 rfl (lv_at hl 0 rfl) ?_
                  refine lv_imul hx hb dX9_days_47 ?_
                  refine lv_topi (fun z_17 ez_17 => ?_)
                  have jz_17 : z_17.toInt = 400 * L3_33.toInt := by rw [ez_17]; exact g_mul t_400 rfl (by omega) (by omega)
                  refine lv_aload_n hx hb dX9_days_48 rfl (lv_at hl 2 rfl) ?_
                  refine va_get (D := D) (ci := 9) (v := .int mtoday_26) (C := RX9) (T := TX9) (N := 68) hx hb htb iX9 hown hK.1 hP 0 rfl rfl 1 (by decide) (htb _ k_959) (fun _ h9 => h9) rfl dX9_days_49 ?_
                  refine lv_iadd hx hb dX9_days_52 ?_
                  refine lv_topi (fun z_18 ez_18 => ?_)
                  have jz_18 : z_18.toInt = z_17.toInt + mtoday_26.toInt := by rw [ez_18]; exact g_add rfl rfl (by omega) (by omega)
                  refine lv_iconst (v := 1) hx hb dX9_days_53 (by decide) ?_
                  refine lv_iadd hx hb dX9_days_54 ?_
                  refine lv_topi (fun z_19 ez_19 => ?_)
                  have jz_19 : z_19.toInt = z_18.toInt + 1 := by rw [ez_19]; exact g_add rfl t_1 (by omega) (by omega)
                  refine lv_aload_n hx hb dX9_days_55 rfl (lv_at hl 2 rfl) ?_
                  refine va_get (D := D) (ci := 9) (v := .ref (ma 10)) (C := RX9) (T := TX9) (N := 68) hx hb htb iX9 hown hK.1 hP 0 rfl rfl 10 (by decide) (htb _ k_968) (fun _ h9 => h9) rfl dX9_days_56 ?_
                  refine lv_sipush (v := 400) hx hb dX9_days_59 (by decide) ?_
                  refine lv_iload_n hx hb dX9_days_62 rfl (lv_at hl 0 rfl) ?_
                  refine lv_imul hx hb dX9_days_63 ?_
                  refine lv_topi (fun z_20 ez_20 => ?_)
                  have jz_20 : z_20.toInt = 400 * L3_33.toInt := by rw [ez_20]; exact g_mul t_400 rfl (by omega) (by omega)
                  refine lv_aload_n hx hb dX9_days_64 rfl (lv_at hl 2 rfl) ?_
                  refine va_get (D := D) (ci := 9) (v := .int mtoday_26) (C := RX9) (T := TX9) (N := 68) hx hb htb iX9 hown hK.1 hP 0 rfl rfl 1 (by decide) (htb _ k_959) (fun _ h9 => h9) rfl dX9_days_65 ?_
                  refine lv_iadd hx hb dX9_days_68 ?_
                  refine lv_topi (fun z_21 ez_21 => ?_)
                  have jz_21 : z_21.toInt = z_20.toInt + mtoday_26.toInt := by rw [ez_21]; exact g_add rfl rfl (by omega) (by omega)
                  refine va_iald hx hb hK.1 hP 1 0 rfl rfl (g_in rfl (by omega) (by omega)) dX9_days_69 ?_
                  refine lv_topi (fun z_22 ez_22 => ?_)
                  have kz_22 := congrArg Int32.toInt ez_22
                  refine va_iast hx hb hK.1 hP hD hS 1 0 rfl rfl (g_in rfl (by omega) (by omega)) dX9_days_70 (fun H locs hP hD hS => ?_)
                  have hP : va_P D vwCl [(mh, .inr (9, G9 ma mcode mtoday_26 moffs mmany msumW msumA msumR msumWW msumWA msumAA msumWR msumAR mupper mlower mrates mtaped mlaid mat mtk mtkAt mtkNumber mwaits mlisted mdealtMany)), ((ma 10), .inl (E 0, 6400, .inl (upd mf10_33 (z_19 : Int32).toNatClampNeg z_22)))] H := hP
                  have hD := toW hP hD rfl
                  obtain ⟨z_23, ez_23⟩ : ∃ y : Int32, y = L3_33 + 1 := ⟨_, rfl⟩
                  have jz_23 : z_23.toInt = L3_33.toInt + 1 := by rw [ez_23]; exact g_add rfl t_1 (by omega) (by omega)
                  refine lv_iinc (v := z_23) (lv' := [(3, .int z_23), (2, .int L2_26), (0, .ref mh), (1, .int p0)]) hx hb dX9_days_71 hl (k := 0) rfl (by rw [ez_23]; rfl) (by decide) rfl (fun ls hl => ?_)
                  refine lv_goto (tgt := 33) hx hb dX9_days_74 (by decide) ?_
                  exact ih_12 z_23 (upd mf10_33 (z_19 : Int32).toNatClampNeg z_22) _ _ _ (by (try dsimp only); omega) (by (try dsimp only); omega) (HD2_s (t1 := mtoday_26) v1_33 (by omega) (by omega) (by omega) (by omega) (by have c1 := i_clamp0 (x := z_19) (by omega); omega) (by rw [ez_22]; congr 1; have c2 := i_clamp0 (x := z_21) (by omega); omega) (by omega)) hP hD hS (lv_sub hl [0, 1, 2, 3] rfl)
            exact loop_11 17 0 mf10_26 _ _ _ (by have h0 := t_0; (try dsimp only); omega) (by have h0 := t_0; (try dsimp only); omega) v3_26 hP hD hS (lv_sub hl [0, 1, 2, 3] rfl)
      exact loop_7 101 0 mtoday mf10 _ _ _ (by have h0 := t_0; (try dsimp only); omega) (by (try dsimp only); omega) (by have h0 := t_0; (try dsimp only); omega) (by have h0 := t_0; (try dsimp only); omega) (by have h0 := t_0; (try dsimp only); omega) (HD2_0 rfl) hP hD hS (lv_sub hl [0, 1, 2] rfl)
    ·
      have ic_6 : 399 < z_5.toInt := by first | exact (g_lt t_399 rfl).mp c_6 | (have h := mt (g_le rfl t_399).mpr c_6; omega)
      clear c_6
      refine lv_iconst (v := (-1)) hx hb dX9_days_22 (by decide) ?_
      have hP9 := hP.sub (ws' := [(mh, .inr (9, G9 ma mcode mtoday moffs mmany msumW msumA msumR msumWW msumWA msumAA msumWR msumAR mupper mlower mrates mtaped mlaid mat mtk mtkAt mtkNumber mwaits mlisted mdealtMany)), ((ma 10), .inl (E 0, 6400, .inl mf10))]) [0, 1] rfl
      have hD9 := hD.sub (ws' := [(mh, .inr (9, G9 ma mcode mtoday moffs mmany msumW msumA msumR msumWW msumWA msumAA msumWR msumAR mupper mlower mrates mtaped mlaid mat mtk mtkAt mtkNumber mwaits mlisted mdealtMany)), ((ma 10), .inl (E 0, 6400, .inl mf10))]) [0, 1] (by decide) rfl
      exact W.iret (v := (-1)) hx hb hr (fun t ht hW => ⟨⟨(-1), (mf10, mtoday), rfl, ⟨(by (try dsimp only); omega), (by have hl0 := t_m1; (try dsimp only); first | exact Or.inl ⟨by omega, by omega, by omega, by assumption⟩ | exact Or.inr ⟨by omega, by omega, by omega, rfl⟩)⟩, by rw [ht]; exact hP9, hD9⟩, hS.F ht⟩) hS.2.2 dX9_days_23
  ·
    try simp only [t_1, t_100] at hw_2
    refine W_top (y := .int 0) (by rw [hr_1]) ?_
    refine lv_if_eq (tgt := 22) hx hb dX9_days_7 (by decide) (fun c_24 => ?_) (fun c_24 => absurd (by decide) c_24)
    refine lv_iconst (v := (-1)) hx hb dX9_days_22 (by decide) ?_
    have hP9 := hP.sub (ws' := [(mh, .inr (9, G9 ma mcode mtoday moffs mmany msumW msumA msumR msumWW msumWA msumAA msumWR msumAR mupper mlower mrates mtaped mlaid mat mtk mtkAt mtkNumber mwaits mlisted mdealtMany)), ((ma 10), .inl (E 0, 6400, .inl mf10))]) [0, 1] rfl
    have hD9 := hD.sub (ws' := [(mh, .inr (9, G9 ma mcode mtoday moffs mmany msumW msumA msumR msumWW msumWA msumAA msumWR msumAR mupper mlower mrates mtaped mlaid mat mtk mtkAt mtkNumber mwaits mlisted mdealtMany)), ((ma 10), .inl (E 0, 6400, .inl mf10))]) [0, 1] (by decide) rfl
    exact W.iret (v := (-1)) hx hb hr (fun t ht hW => ⟨⟨(-1), (mf10, mtoday), rfl, ⟨(by (try dsimp only); omega), (by have hl0 := t_m1; (try dsimp only); first | exact Or.inl ⟨by omega, by omega, by omega, by assumption⟩ | exact Or.inr ⟨by omega, by omega, by omega, rfl⟩)⟩, by rw [ht]; exact hP9, hD9⟩, hS.F ht⟩) hS.2.2 dX9_days_23
set_option maxHeartbeats 4000000 in
set_option maxRecDepth 100000 in
theorem g_X9_warmth (l : Launch) (D : va_G) (E : Nat → Nat) (mh : Nat) (ma : Nat → Nat) (mcode : Int32) (mtoday : Int32) (moffs : Int32) (mmany : Int64) (msumW : Int64) (msumA : Int64) (msumR : Int64) (msumWW : Int64) (msumWA : Int64) (msumAA : Int64) (msumWR : Int64) (msumAR : Int64) (mupper : Int64) (mlower : Int64) (mrates : Int32) (mtaped : Int32) (mlaid : Int32) (mat : Int32) (mtk : Int32) (mtkAt : Int32) (mtkNumber : Int32) (mwaits : Int32) (mlisted : Int32) (mdealtMany : Int32) (mf2 : Nat → Int32) (p0 : Int32) (p1 : Int32) (sz : Nat) (hi_m : (0 ≤ mtoday.toInt ∧ mtoday.toInt ≤ 399) ∧ (0 ≤ moffs.toInt ∧ moffs.toInt ≤ 60) ∧ (0 ≤ mrates.toInt ∧ mrates.toInt ≤ 60) ∧ (0 ≤ mtaped.toInt ∧ mtaped.toInt ≤ 120) ∧ (0 ≤ mlisted.toInt ∧ mlisted.toInt ≤ 9) ∧ (0 ≤ mdealtMany.toInt ∧ mdealtMany.toInt ≤ 9)) : Met l yX9_warmth (wl yX9_warmth cX9_warmth 3 (some .int)) (RM 2 0 0) (mu_P D E [.ref mh, .int p0, .int p1] [(mh, .inr (9, G9 ma mcode mtoday moffs mmany msumW msumA msumR msumWW msumWA msumAA msumWR msumAR mupper mlower mrates mtaped mlaid mat mtk mtkAt mtkNumber mwaits mlisted mdealtMany)), ((ma 2), .inl (E 0, 400, .inl mf2))] sz) (va_Qi (fun (r : Int32) (u : (Nat → Int32)) => ((r.toInt = 1 ∧ ((0 ≤ p0.toInt ∧ p0.toInt ≤ 399) ∧ (p1.toInt = -100 ∨ (-50 ≤ p1.toInt ∧ p1.toInt ≤ 50))) ∧ ((p1.toInt = -100 ∧ u = upd mf2 (p0).toNatClampNeg (-1000)) ∨ (p1.toInt ≠ -100 ∧ u = upd mf2 (p0).toNatClampNeg p1))) ∨ (r.toInt = -1 ∧ ¬ ((0 ≤ p0.toInt ∧ p0.toInt ≤ 399) ∧ (p1.toInt = -100 ∨ (-50 ≤ p1.toInt ∧ p1.toInt ≤ 50))) ∧ u = mf2))) (mu_B D (va_A [(mh, .inr (9, G9 ma mcode mtoday moffs mmany msumW msumA msumR msumWW msumWA msumAA msumWR msumAR mupper mlower mrates mtaped mlaid mat mtk mtkAt mtkNumber mwaits mlisted mdealtMany)), ((ma 2), .inl (E 0, 400, .inl mf2))] sz) (fun (u : (Nat → Int32)) => [(mh, .inr (9, G9 ma mcode mtoday moffs mmany msumW msumA msumR msumWW msumWA msumAA msumWR msumAR mupper mlower mrates mtaped mlaid mat mtk mtkAt mtkNumber mwaits mlisted mdealtMany)), ((ma 2), .inl (E 0, 400, .inl u))])) (va_A [(mh, .inr (9, G9 ma mcode mtoday moffs mmany msumW msumA msumR msumWW msumWA msumAA msumWR msumAR mupper mlower mrates mtaped mlaid mat mtk mtkAt mtkNumber mwaits mlisted mdealtMany)), ((ma 2), .inl (E 0, 400, .inl mf2))] sz)) 0 0 (va_A [(mh, .inr (9, G9 ma mcode mtoday moffs mmany msumW msumA msumR msumWW msumWA msumAA msumWR msumAR mupper mlower mrates mtaped mlaid mat mtk mtkAt mtkNumber mwaits mlisted mdealtMany)), ((ma 2), .inl (E 0, 400, .inl mf2))] sz) := by
  refine Met.ofW (cc := cX9_warmth) (maxL := 3) (ret := (some .int)) (by decide) rfl ?_
  intro p e s m args below meth c s₁ B hml hv
  obtain ⟨rfl, hsz, hP, hK, hD0⟩ := hv
  have hx := B.exec; have hb := B.bytes; have hr := B.returns
  have hts := atoms_spec (ws := wl yX9_warmth cX9_warmth 3 (some .int)) B.pre
  have htb : ∀ w ∈ tb, w.before _ s = true := fun w h => hts w (List.mem_cons_of_mem _ h)
  have hown : s.vm.findClass RX9 = some m.cls := findClass_of_methodNamed B.named
  have hlocks := B.notSynchronized
  subst hsz
  have hD := hD0.self (sz := s.heap.size)
  generalize hAe : va_A [(mh, .inr (9, G9 ma mcode mtoday moffs mmany msumW msumA msumR msumWW msumWA msumAA msumWR msumAR mupper mlower mrates mtaped mlaid mat mtk mtkAt mtkNumber mwaits mlisted mdealtMany)), ((ma 2), .inl (E 0, 400, .inl mf2))] s.heap.size = A at hD ⊢
  have hA : ∀ q : Nat, s.heap.size ≤ q → A q := fun q h => by rw [← hAe]; exact Or.inr h
  have hS : va_S A s.heap s.heap [] := va_S.rf
  have hP : va_P D vwCl [(mh, .inr (9, G9 ma mcode mtoday moffs mmany msumW msumA msumR msumWW msumWA msumAA msumWR msumAR mupper mlower mrates mtaped mlaid mat mtk mtkAt mtkNumber mwaits mlisted mdealtMany)), ((ma 2), .inl (E 0, 400, .inl mf2))] s.heap := hP
  have hl := lv_entry ([.ref mh, .int p0, .int p1]) (n := 3) (Nat.le_of_ble_eq_true rfl)
  rw [lg_entry_eq]
  generalize (lg_sl ([.ref mh, .int p0, .int p1]) ++ List.replicate (3 - (lg_sl ([.ref mh, .int p0, .int p1])).length) Slot.unset).toArray = ls at hl ⊢
  have hl : lv_has ls 3 [(0, .ref mh), (1, .int p0), (2, .int p1)] := hl
  have lo_p0 := i_lo p0; have hi_p0 := i_hi p0
  have lo_p1 := i_lo p1; have hi_p1 := i_hi p1
  refine lv_iload_n hx hb dX9_warmth_0 rfl (lv_at hl 1 rfl) ?_
  refine callRS (rest := []) (As := [.int p0]) hx hb hml hown htb hK (g_X9_isDay l D E p0 ) ok_X9_isDay k_1175 k_1176 k_9 k_1177 ⟨(Nat.le_of_ble_eq_true rfl), (Nat.le_of_ble_eq_true rfl)⟩ ⟨(Nat.le_of_ble_eq_true rfl), (Nat.le_of_ble_eq_true rfl)⟩ hl.1 (Nat.le_of_ble_eq_true rfl) rfl rfl dX9_warmth_1 (hP.sub (ws' := ([] : va_W)) [] rfl) (fun r_1 hw_2 => ?_)
  rcases hw_2 with ⟨hr_1, hw_2⟩ | ⟨hr_1, hw_2⟩
  ·
    refine W_top (y := .int 1) (by rw [hr_1]) ?_
    refine lv_if_eq (tgt := 24) hx hb dX9_warmth_4 (by decide) (fun c_4 => absurd c_4 (by decide)) (fun c_4 => ?_)
    refine lv_iload_n hx hb dX9_warmth_7 rfl (lv_at hl 2 rfl) ?_
    refine lv_bipush (v := (-100)) hx hb dX9_warmth_8 (by decide) ?_
    refine lv_icmp_eq (tgt := 26) hx hb dX9_warmth_10 (by decide) (fun c_5 => ?_) (fun c_5 => ?_)
    ·
      have ic_5 : p1.toInt = -100 := (g_eq rfl t_m100).mp c_5
      clear c_5
      refine lv_aload_n hx hb dX9_warmth_26 rfl (lv_at hl 0 rfl) ?_
      refine va_get (D := D) (ci := 9) (v := .ref (ma 2)) (C := RX9) (T := TX9) (N := 68) hx hb htb iX9 hown hK.1 hP 0 rfl rfl 2 (by decide) (htb _ k_960) (fun _ h9 => h9) rfl dX9_warmth_27 ?_
      refine lv_iload_n hx hb dX9_warmth_30 rfl (lv_at hl 1 rfl) ?_
      refine lv_iload_n hx hb dX9_warmth_31 rfl (lv_at hl 2 rfl) ?_
      refine lv_bipush (v := (-100)) hx hb dX9_warmth_32 (by decide) ?_
      refine lv_icmp_ne (tgt := 43) hx hb dX9_warmth_34 (by decide) (fun c_6 => absurd (by rw [g_eq rfl t_m100]; omega) c_6) (fun c_6 => ?_)
      refine lv_sipush (v := (-1000)) hx hb dX9_warmth_37 (by decide) ?_
      refine lv_goto (tgt := 44) hx hb dX9_warmth_40 (by decide) ?_
      refine va_iast hx hb hK.1 hP hD hS 1 0 rfl rfl (g_in rfl (by omega) (by omega)) dX9_warmth_44 (fun H locs hP hD hS => ?_)
      have hP : va_P D vwCl [(mh, .inr (9, G9 ma mcode mtoday moffs mmany msumW msumA msumR msumWW msumWA msumAA msumWR msumAR mupper mlower mrates mtaped mlaid mat mtk mtkAt mtkNumber mwaits mlisted mdealtMany)), ((ma 2), .inl (E 0, 400, .inl (upd mf2 (p0 : Int32).toNatClampNeg (-1000))))] H := hP
      have hD := toW hP hD rfl
      refine lv_iconst (v := 1) hx hb dX9_warmth_45 (by decide) ?_
      have hP9 := hP.sub (ws' := [(mh, .inr (9, G9 ma mcode mtoday moffs mmany msumW msumA msumR msumWW msumWA msumAA msumWR msumAR mupper mlower mrates mtaped mlaid mat mtk mtkAt mtkNumber mwaits mlisted mdealtMany)), ((ma 2), .inl (E 0, 400, .inl (upd mf2 (p0 : Int32).toNatClampNeg (-1000))))]) [0, 1] rfl
      have hD9 := hD.sub (ws' := [(mh, .inr (9, G9 ma mcode mtoday moffs mmany msumW msumA msumR msumWW msumWA msumAA msumWR msumAR mupper mlower mrates mtaped mlaid mat mtk mtkAt mtkNumber mwaits mlisted mdealtMany)), ((ma 2), .inl (E 0, 400, .inl (upd mf2 (p0 : Int32).toNatClampNeg (-1000))))]) [0, 1] (by decide) rfl
      exact W.iret (v := 1) hx hb hr (fun t ht hW => ⟨⟨1, (upd mf2 (p0 : Int32).toNatClampNeg (-1000)), rfl, (by have hl0 := t_1; (try dsimp only); first | exact Or.inl ⟨by omega, by omega, by first | exact Or.inl ⟨by omega, rfl⟩ | exact Or.inr ⟨by omega, rfl⟩⟩ | exact Or.inr ⟨by omega, by omega, rfl⟩), by rw [ht]; exact hP9, hD9⟩, hS.F ht⟩) hS.2.2 dX9_warmth_46
    ·
      have ic_5 : p1.toInt ≠ -100 := mt (g_eq rfl t_m100).mpr c_5
      clear c_5
      refine lv_iload_n hx hb dX9_warmth_13 rfl (lv_at hl 2 rfl) ?_
      refine lv_bipush (v := (-50)) hx hb dX9_warmth_14 (by decide) ?_
      refine lv_bipush (v := 50) hx hb dX9_warmth_16 (by decide) ?_
      refine callRS (rest := []) (As := [.int p1, .int (-50), .int 50]) hx hb hml hown htb hK (g_X9_in l D E p1 (-50) 50 ) ok_X9_in k_1168 k_1169 k_9 k_1170 ⟨(Nat.le_of_ble_eq_true rfl), (Nat.le_of_ble_eq_true rfl)⟩ ⟨(Nat.le_of_ble_eq_true rfl), (Nat.le_of_ble_eq_true rfl)⟩ hl.1 (Nat.le_of_ble_eq_true rfl) rfl rfl dX9_warmth_18 (hP.sub (ws' := ([] : va_W)) [] rfl) (fun r_7 hw_8 => ?_)
      try simp only [t_m50, t_50] at hw_8
      rcases hw_8 with ⟨hr_7, hw_8⟩ | ⟨hr_7, hw_8⟩
      ·
        try simp only [t_m50, t_50] at hw_8
        refine W_top (y := .int 1) (by rw [hr_7]) ?_
        refine lv_if_ne (tgt := 26) hx hb dX9_warmth_21 (by decide) (fun c_10 => ?_) (fun c_10 => absurd c_10 (by decide))
        refine lv_aload_n hx hb dX9_warmth_26 rfl (lv_at hl 0 rfl) ?_
        refine va_get (D := D) (ci := 9) (v := .ref (ma 2)) (C := RX9) (T := TX9) (N := 68) hx hb htb iX9 hown hK.1 hP 0 rfl rfl 2 (by decide) (htb _ k_960) (fun _ h9 => h9) rfl dX9_warmth_27 ?_
        refine lv_iload_n hx hb dX9_warmth_30 rfl (lv_at hl 1 rfl) ?_
        refine lv_iload_n hx hb dX9_warmth_31 rfl (lv_at hl 2 rfl) ?_
        refine lv_bipush (v := (-100)) hx hb dX9_warmth_32 (by decide) ?_
        refine lv_icmp_ne (tgt := 43) hx hb dX9_warmth_34 (by decide) (fun c_11 => ?_) (fun c_11 => absurd c_11 (by rw [g_eq rfl t_m100]; omega))
        refine lv_iload_n hx hb dX9_warmth_43 rfl (lv_at hl 2 rfl) ?_
        refine va_iast hx hb hK.1 hP hD hS 1 0 rfl rfl (g_in rfl (by omega) (by omega)) dX9_warmth_44 (fun H locs hP hD hS => ?_)
        have hP : va_P D vwCl [(mh, .inr (9, G9 ma mcode mtoday moffs mmany msumW msumA msumR msumWW msumWA msumAA msumWR msumAR mupper mlower mrates mtaped mlaid mat mtk mtkAt mtkNumber mwaits mlisted mdealtMany)), ((ma 2), .inl (E 0, 400, .inl (upd mf2 (p0 : Int32).toNatClampNeg p1)))] H := hP
        have hD := toW hP hD rfl
        refine lv_iconst (v := 1) hx hb dX9_warmth_45 (by decide) ?_
        have hP9 := hP.sub (ws' := [(mh, .inr (9, G9 ma mcode mtoday moffs mmany msumW msumA msumR msumWW msumWA msumAA msumWR msumAR mupper mlower mrates mtaped mlaid mat mtk mtkAt mtkNumber mwaits mlisted mdealtMany)), ((ma 2), .inl (E 0, 400, .inl (upd mf2 (p0 : Int32).toNatClampNeg p1)))]) [0, 1] rfl
        have hD9 := hD.sub (ws' := [(mh, .inr (9, G9 ma mcode mtoday moffs mmany msumW msumA msumR msumWW msumWA msumAA msumWR msumAR mupper mlower mrates mtaped mlaid mat mtk mtkAt mtkNumber mwaits mlisted mdealtMany)), ((ma 2), .inl (E 0, 400, .inl (upd mf2 (p0 : Int32).toNatClampNeg p1)))]) [0, 1] (by decide) rfl
        exact W.iret (v := 1) hx hb hr (fun t ht hW => ⟨⟨1, (upd mf2 (p0 : Int32).toNatClampNeg p1), rfl, (by have hl0 := t_1; (try dsimp only); first | exact Or.inl ⟨by omega, by omega, by first | exact Or.inl ⟨by omega, rfl⟩ | exact Or.inr ⟨by omega, rfl⟩⟩ | exact Or.inr ⟨by omega, by omega, rfl⟩), by rw [ht]; exact hP9, hD9⟩, hS.F ht⟩) hS.2.2 dX9_warmth_46
      ·
        try simp only [t_m50, t_50] at hw_8
        refine W_top (y := .int 0) (by rw [hr_7]) ?_
        refine lv_if_ne (tgt := 26) hx hb dX9_warmth_21 (by decide) (fun c_12 => absurd (by decide) c_12) (fun c_12 => ?_)
        refine lv_iconst (v := (-1)) hx hb dX9_warmth_24 (by decide) ?_
        have hP9 := hP.sub (ws' := [(mh, .inr (9, G9 ma mcode mtoday moffs mmany msumW msumA msumR msumWW msumWA msumAA msumWR msumAR mupper mlower mrates mtaped mlaid mat mtk mtkAt mtkNumber mwaits mlisted mdealtMany)), ((ma 2), .inl (E 0, 400, .inl mf2))]) [0, 1] rfl
        have hD9 := hD.sub (ws' := [(mh, .inr (9, G9 ma mcode mtoday moffs mmany msumW msumA msumR msumWW msumWA msumAA msumWR msumAR mupper mlower mrates mtaped mlaid mat mtk mtkAt mtkNumber mwaits mlisted mdealtMany)), ((ma 2), .inl (E 0, 400, .inl mf2))]) [0, 1] (by decide) rfl
        exact W.iret (v := (-1)) hx hb hr (fun t ht hW => ⟨⟨(-1), mf2, rfl, (by have hl0 := t_m1; (try dsimp only); first | exact Or.inl ⟨by omega, by omega, by first | exact Or.inl ⟨by omega, rfl⟩ | exact Or.inr ⟨by omega, rfl⟩⟩ | exact Or.inr ⟨by omega, by omega, rfl⟩), by rw [ht]; exact hP9, hD9⟩, hS.F ht⟩) hS.2.2 dX9_warmth_25
  ·
    refine W_top (y := .int 0) (by rw [hr_1]) ?_
    refine lv_if_eq (tgt := 24) hx hb dX9_warmth_4 (by decide) (fun c_13 => ?_) (fun c_13 => absurd (by decide) c_13)
    refine lv_iconst (v := (-1)) hx hb dX9_warmth_24 (by decide) ?_
    have hP9 := hP.sub (ws' := [(mh, .inr (9, G9 ma mcode mtoday moffs mmany msumW msumA msumR msumWW msumWA msumAA msumWR msumAR mupper mlower mrates mtaped mlaid mat mtk mtkAt mtkNumber mwaits mlisted mdealtMany)), ((ma 2), .inl (E 0, 400, .inl mf2))]) [0, 1] rfl
    have hD9 := hD.sub (ws' := [(mh, .inr (9, G9 ma mcode mtoday moffs mmany msumW msumA msumR msumWW msumWA msumAA msumWR msumAR mupper mlower mrates mtaped mlaid mat mtk mtkAt mtkNumber mwaits mlisted mdealtMany)), ((ma 2), .inl (E 0, 400, .inl mf2))]) [0, 1] (by decide) rfl
    exact W.iret (v := (-1)) hx hb hr (fun t ht hW => ⟨⟨(-1), mf2, rfl, (by have hl0 := t_m1; (try dsimp only); first | exact Or.inl ⟨by omega, by omega, by first | exact Or.inl ⟨by omega, rfl⟩ | exact Or.inr ⟨by omega, rfl⟩⟩ | exact Or.inr ⟨by omega, by omega, rfl⟩), by rw [ht]; exact hP9, hD9⟩, hS.F ht⟩) hS.2.2 dX9_warmth_25
set_option maxHeartbeats 4000000 in
set_option maxRecDepth 100000 in
theorem g_X9_put (l : Launch) (D : va_G) (E : Nat → Nat) (mh : Nat) (ma : Nat → Nat) (mcode : Int32) (mtoday : Int32) (moffs : Int32) (mmany : Int64) (msumW : Int64) (msumA : Int64) (msumR : Int64) (msumWW : Int64) (msumWA : Int64) (msumAA : Int64) (msumWR : Int64) (msumAR : Int64) (mupper : Int64) (mlower : Int64) (mrates : Int32) (mtaped : Int32) (mlaid : Int32) (mat : Int32) (mtk : Int32) (mtkAt : Int32) (mtkNumber : Int32) (mwaits : Int32) (mlisted : Int32) (mdealtMany : Int32) (mf3 : Nat → Int32) (mf4 : Nat → Int32) (mf5 : Nat → Int32) (mf8 : Nat → Int32) (mf9 : Nat → Int32) (mf10 : Nat → Int32) (p0 : Int32) (p1 : Int32) (p2 : Int32) (sz : Nat) (hi_m : (0 ≤ mtoday.toInt ∧ mtoday.toInt ≤ 399) ∧ (0 ≤ moffs.toInt ∧ moffs.toInt ≤ 60) ∧ (0 ≤ mrates.toInt ∧ mrates.toInt ≤ 60) ∧ (0 ≤ mtaped.toInt ∧ mtaped.toInt ≤ 120) ∧ (0 ≤ mlisted.toInt ∧ mlisted.toInt ≤ 9) ∧ (0 ≤ mdealtMany.toInt ∧ mdealtMany.toInt ≤ 9)) : Met l yX9_put (wl yX9_put cX9_put 5 (some .int)) (RM 2 0 0) (mu_P D E [.ref mh, .int p0, .int p1, .int p2] [(mh, .inr (9, G9 ma mcode mtoday moffs mmany msumW msumA msumR msumWW msumWA msumAA msumWR msumAR mupper mlower mrates mtaped mlaid mat mtk mtkAt mtkNumber mwaits mlisted mdealtMany)), ((ma 3), .inl (E 0, 16, .inl mf3)), ((ma 4), .inl (E 0, 16, .inl mf4)), ((ma 5), .inl (E 1, 6400, .inl mf5)), ((ma 8), .inl (E 1, 6400, .inl mf8)), ((ma 9), .inl (E 1, 6400, .inl mf9)), ((ma 10), .inl (E 0, 6400, .inl mf10))] sz) (va_Qi (fun (r : Int32) (u : (Nat → Int32) × (Nat → Int32) × (Nat → Int32) × (Nat → Int32) × (Nat → Int32) × (Nat → Int32)) => ((r.toInt = 1 ∧ (0 ≤ p0.toInt ∧ p0.toInt ≤ 15) ∧ ((p1.toInt = 0 ∧ p2.toInt = 0) ∨ (p1.toInt = 1 ∧ -50 ≤ p2.toInt ∧ p2.toInt ≤ 50) ∨ p1.toInt = 2) ∧ (mf3 (p0).toNatClampNeg).toInt = -5 ∧ u.2.1 = upd mf3 (p0).toNatClampNeg p1 ∧ u.2.2.1 = upd mf4 (p0).toNatClampNeg p2 ∧ FIL mf5 u.2.2.2.1 (400 * p0.toInt) (400 * p0.toInt + 400) 0 ∧ FIL mf8 u.2.2.2.2.1 (400 * p0.toInt) (400 * p0.toInt + 400) 0 ∧ FIL mf9 u.2.2.2.2.2 (400 * p0.toInt) (400 * p0.toInt + 400) 0 ∧ FIL mf10 u.1 (400 * p0.toInt) (400 * p0.toInt + 400) (-1)) ∨ (r.toInt = -1 ∧ ¬ ((0 ≤ p0.toInt ∧ p0.toInt ≤ 15) ∧ ((p1.toInt = 0 ∧ p2.toInt = 0) ∨ (p1.toInt = 1 ∧ -50 ≤ p2.toInt ∧ p2.toInt ≤ 50) ∨ p1.toInt = 2)) ∧ u.2.1 = mf3 ∧ u.2.2.1 = mf4 ∧ u.2.2.2.1 = mf5 ∧ u.2.2.2.2.1 = mf8 ∧ u.2.2.2.2.2 = mf9 ∧ u.1 = mf10) ∨ (r.toInt = -4 ∧ (0 ≤ p0.toInt ∧ p0.toInt ≤ 15) ∧ ((p1.toInt = 0 ∧ p2.toInt = 0) ∨ (p1.toInt = 1 ∧ -50 ≤ p2.toInt ∧ p2.toInt ≤ 50) ∨ p1.toInt = 2) ∧ (mf3 (p0).toNatClampNeg).toInt ≠ -5 ∧ u.2.1 = mf3 ∧ u.2.2.1 = mf4 ∧ u.2.2.2.1 = mf5 ∧ u.2.2.2.2.1 = mf8 ∧ u.2.2.2.2.2 = mf9 ∧ u.1 = mf10))) (mu_B D (va_A [(mh, .inr (9, G9 ma mcode mtoday moffs mmany msumW msumA msumR msumWW msumWA msumAA msumWR msumAR mupper mlower mrates mtaped mlaid mat mtk mtkAt mtkNumber mwaits mlisted mdealtMany)), ((ma 3), .inl (E 0, 16, .inl mf3)), ((ma 4), .inl (E 0, 16, .inl mf4)), ((ma 5), .inl (E 1, 6400, .inl mf5)), ((ma 8), .inl (E 1, 6400, .inl mf8)), ((ma 9), .inl (E 1, 6400, .inl mf9)), ((ma 10), .inl (E 0, 6400, .inl mf10))] sz) (fun (u : (Nat → Int32) × (Nat → Int32) × (Nat → Int32) × (Nat → Int32) × (Nat → Int32) × (Nat → Int32)) => [(mh, .inr (9, G9 ma mcode mtoday moffs mmany msumW msumA msumR msumWW msumWA msumAA msumWR msumAR mupper mlower mrates mtaped mlaid mat mtk mtkAt mtkNumber mwaits mlisted mdealtMany)), ((ma 3), .inl (E 0, 16, .inl u.2.1)), ((ma 4), .inl (E 0, 16, .inl u.2.2.1)), ((ma 5), .inl (E 1, 6400, .inl u.2.2.2.1)), ((ma 8), .inl (E 1, 6400, .inl u.2.2.2.2.1)), ((ma 9), .inl (E 1, 6400, .inl u.2.2.2.2.2)), ((ma 10), .inl (E 0, 6400, .inl u.1))])) (va_A [(mh, .inr (9, G9 ma mcode mtoday moffs mmany msumW msumA msumR msumWW msumWA msumAA msumWR msumAR mupper mlower mrates mtaped mlaid mat mtk mtkAt mtkNumber mwaits mlisted mdealtMany)), ((ma 3), .inl (E 0, 16, .inl mf3)), ((ma 4), .inl (E 0, 16, .inl mf4)), ((ma 5), .inl (E 1, 6400, .inl mf5)), ((ma 8), .inl (E 1, 6400, .inl mf8)), ((ma 9), .inl (E 1, 6400, .inl mf9)), ((ma 10), .inl (E 0, 6400, .inl mf10))] sz)) 0 0 (va_A [(mh, .inr (9, G9 ma mcode mtoday moffs mmany msumW msumA msumR msumWW msumWA msumAA msumWR msumAR mupper mlower mrates mtaped mlaid mat mtk mtkAt mtkNumber mwaits mlisted mdealtMany)), ((ma 3), .inl (E 0, 16, .inl mf3)), ((ma 4), .inl (E 0, 16, .inl mf4)), ((ma 5), .inl (E 1, 6400, .inl mf5)), ((ma 8), .inl (E 1, 6400, .inl mf8)), ((ma 9), .inl (E 1, 6400, .inl mf9)), ((ma 10), .inl (E 0, 6400, .inl mf10))] sz) := by
  refine Met.ofW (cc := cX9_put) (maxL := 5) (ret := (some .int)) (by decide) rfl ?_
  intro p e s m args below meth c s₁ B hml hv
  obtain ⟨rfl, hsz, hP, hK, hD0⟩ := hv
  have hx := B.exec; have hb := B.bytes; have hr := B.returns
  have hts := atoms_spec (ws := wl yX9_put cX9_put 5 (some .int)) B.pre
  have htb : ∀ w ∈ tb, w.before _ s = true := fun w h => hts w (List.mem_cons_of_mem _ h)
  have hown : s.vm.findClass RX9 = some m.cls := findClass_of_methodNamed B.named
  have hlocks := B.notSynchronized
  subst hsz
  have hD := hD0.self (sz := s.heap.size)
  generalize hAe : va_A [(mh, .inr (9, G9 ma mcode mtoday moffs mmany msumW msumA msumR msumWW msumWA msumAA msumWR msumAR mupper mlower mrates mtaped mlaid mat mtk mtkAt mtkNumber mwaits mlisted mdealtMany)), ((ma 3), .inl (E 0, 16, .inl mf3)), ((ma 4), .inl (E 0, 16, .inl mf4)), ((ma 5), .inl (E 1, 6400, .inl mf5)), ((ma 8), .inl (E 1, 6400, .inl mf8)), ((ma 9), .inl (E 1, 6400, .inl mf9)), ((ma 10), .inl (E 0, 6400, .inl mf10))] s.heap.size = A at hD ⊢
  have hA : ∀ q : Nat, s.heap.size ≤ q → A q := fun q h => by rw [← hAe]; exact Or.inr h
  have hS : va_S A s.heap s.heap [] := va_S.rf
  have hP : va_P D vwCl [(mh, .inr (9, G9 ma mcode mtoday moffs mmany msumW msumA msumR msumWW msumWA msumAA msumWR msumAR mupper mlower mrates mtaped mlaid mat mtk mtkAt mtkNumber mwaits mlisted mdealtMany)), ((ma 3), .inl (E 0, 16, .inl mf3)), ((ma 4), .inl (E 0, 16, .inl mf4)), ((ma 5), .inl (E 1, 6400, .inl mf5)), ((ma 8), .inl (E 1, 6400, .inl mf8)), ((ma 9), .inl (E 1, 6400, .inl mf9)), ((ma 10), .inl (E 0, 6400, .inl mf10))] s.heap := hP
  have hl := lv_entry ([.ref mh, .int p0, .int p1, .int p2]) (n := 5) (Nat.le_of_ble_eq_true rfl)
  rw [lg_entry_eq]
  generalize (lg_sl ([.ref mh, .int p0, .int p1, .int p2]) ++ List.replicate (5 - (lg_sl ([.ref mh, .int p0, .int p1, .int p2])).length) Slot.unset).toArray = ls at hl ⊢
  have hl : lv_has ls 5 [(0, .ref mh), (1, .int p0), (2, .int p1), (3, .int p2)] := hl
  have lo_p0 := i_lo p0; have hi_p0 := i_hi p0
  have lo_p1 := i_lo p1; have hi_p1 := i_hi p1
  have lo_p2 := i_lo p2; have hi_p2 := i_hi p2
  refine lv_iload_n hx hb dX9_put_0 rfl (lv_at hl 1 rfl) ?_
  refine callRS (rest := []) (As := [.int p0]) hx hb hml hown htb hK (g_X9_isPlace l D E p0 ) ok_X9_isPlace k_1182 k_1183 k_9 k_1184 ⟨(Nat.le_of_ble_eq_true rfl), (Nat.le_of_ble_eq_true rfl)⟩ ⟨(Nat.le_of_ble_eq_true rfl), (Nat.le_of_ble_eq_true rfl)⟩ hl.1 (Nat.le_of_ble_eq_true rfl) rfl rfl dX9_put_1 (hP.sub (ws' := ([] : va_W)) [] rfl) (fun r_1 hw_2 => ?_)
  rcases hw_2 with ⟨hr_1, hw_2⟩ | ⟨hr_1, hw_2⟩
  ·
    refine W_top (y := .int 1) (by rw [hr_1]) ?_
    refine lv_if_eq (tgt := 40) hx hb dX9_put_4 (by decide) (fun c_4 => absurd c_4 (by decide)) (fun c_4 => ?_)
    refine lv_iload_n hx hb dX9_put_7 rfl (lv_at hl 2 rfl) ?_
    refine lv_iconst (v := 0) hx hb dX9_put_8 (by decide) ?_
    refine lv_iconst (v := 2) hx hb dX9_put_9 (by decide) ?_
    refine callRS (rest := []) (As := [.int p1, .int 0, .int 2]) hx hb hml hown htb hK (g_X9_in l D E p1 0 2 ) ok_X9_in k_1168 k_1169 k_9 k_1170 ⟨(Nat.le_of_ble_eq_true rfl), (Nat.le_of_ble_eq_true rfl)⟩ ⟨(Nat.le_of_ble_eq_true rfl), (Nat.le_of_ble_eq_true rfl)⟩ hl.1 (Nat.le_of_ble_eq_true rfl) rfl rfl dX9_put_10 (hP.sub (ws' := ([] : va_W)) [] rfl) (fun r_5 hw_6 => ?_)
    try simp only [t_0, t_2] at hw_6
    rcases hw_6 with ⟨hr_5, hw_6⟩ | ⟨hr_5, hw_6⟩
    ·
      try simp only [t_0, t_2] at hw_6
      refine W_top (y := .int 1) (by rw [hr_5]) ?_
      refine lv_if_eq (tgt := 40) hx hb dX9_put_13 (by decide) (fun c_8 => absurd c_8 (by decide)) (fun c_8 => ?_)
      refine lv_iload_n hx hb dX9_put_16 rfl (lv_at hl 2 rfl) ?_
      refine lv_if_ne (tgt := 24) hx hb dX9_put_17 (by decide) (fun c_9 => ?_) (fun c_9 => ?_)
      ·
        have ic_9 : p1.toInt ≠ 0 := mt (g_eq rfl t_0).mpr c_9
        clear c_9
        refine lv_iload_n hx hb dX9_put_24 rfl (lv_at hl 2 rfl) ?_
        refine lv_iconst (v := 1) hx hb dX9_put_25 (by decide) ?_
        refine lv_icmp_ne (tgt := 42) hx hb dX9_put_26 (by decide) (fun c_10 => ?_) (fun c_10 => ?_)
        ·
          have ic_10 : p1.toInt ≠ 1 := mt (g_eq rfl t_1).mpr c_10
          clear c_10
          refine lv_aload_n hx hb dX9_put_42 rfl (lv_at hl 0 rfl) ?_
          refine va_get (D := D) (ci := 9) (v := .ref (ma 3)) (C := RX9) (T := TX9) (N := 68) hx hb htb iX9 hown hK.1 hP 0 rfl rfl 3 (by decide) (htb _ k_961) (fun _ h9 => h9) rfl dX9_put_43 ?_
          refine lv_iload_n hx hb dX9_put_46 rfl (lv_at hl 1 rfl) ?_
          refine va_iald hx hb hK.1 hP 1 0 rfl rfl (g_in rfl (by omega) (by omega)) dX9_put_47 ?_
          refine lv_topi (fun z_11 ez_11 => ?_)
          have kz_11 := congrArg Int32.toInt ez_11
          refine lv_bipush (v := (-5)) hx hb dX9_put_48 (by decide) ?_
          refine lv_icmp_eq (tgt := 56) hx hb dX9_put_50 (by decide) (fun c_12 => ?_) (fun c_12 => ?_)
          ·
            have ic_12 : z_11.toInt = -5 := (g_eq rfl t_m5).mp c_12
            clear c_12
            refine lv_aload_n hx hb dX9_put_56 rfl (lv_at hl 0 rfl) ?_
            refine va_get (D := D) (ci := 9) (v := .ref (ma 3)) (C := RX9) (T := TX9) (N := 68) hx hb htb iX9 hown hK.1 hP 0 rfl rfl 3 (by decide) (htb _ k_961) (fun _ h9 => h9) rfl dX9_put_57 ?_
            refine lv_iload_n hx hb dX9_put_60 rfl (lv_at hl 1 rfl) ?_
            refine lv_iload_n hx hb dX9_put_61 rfl (lv_at hl 2 rfl) ?_
            refine va_iast hx hb hK.1 hP hD hS 1 0 rfl rfl (g_in rfl (by omega) (by omega)) dX9_put_62 (fun H locs hP hD hS => ?_)
            have hP : va_P D vwCl [(mh, .inr (9, G9 ma mcode mtoday moffs mmany msumW msumA msumR msumWW msumWA msumAA msumWR msumAR mupper mlower mrates mtaped mlaid mat mtk mtkAt mtkNumber mwaits mlisted mdealtMany)), ((ma 3), .inl (E 0, 16, .inl (upd mf3 (p0 : Int32).toNatClampNeg p1))), ((ma 4), .inl (E 0, 16, .inl mf4)), ((ma 5), .inl (E 1, 6400, .inl mf5)), ((ma 8), .inl (E 1, 6400, .inl mf8)), ((ma 9), .inl (E 1, 6400, .inl mf9)), ((ma 10), .inl (E 0, 6400, .inl mf10))] H := hP
            have hD := toW hP hD rfl
            refine lv_aload_n hx hb dX9_put_63 rfl (lv_at hl 0 rfl) ?_
            refine va_get (D := D) (ci := 9) (v := .ref (ma 4)) (C := RX9) (T := TX9) (N := 68) hx hb htb iX9 hown hK.1 hP 0 rfl rfl 4 (by decide) (htb _ k_962) (fun _ h9 => h9) rfl dX9_put_64 ?_
            refine lv_iload_n hx hb dX9_put_67 rfl (lv_at hl 1 rfl) ?_
            refine lv_iload_n hx hb dX9_put_68 rfl (lv_at hl 3 rfl) ?_
            refine va_iast hx hb hK.1 hP hD hS 2 0 rfl rfl (g_in rfl (by omega) (by omega)) dX9_put_69 (fun H locs hP hD hS => ?_)
            have hP : va_P D vwCl [(mh, .inr (9, G9 ma mcode mtoday moffs mmany msumW msumA msumR msumWW msumWA msumAA msumWR msumAR mupper mlower mrates mtaped mlaid mat mtk mtkAt mtkNumber mwaits mlisted mdealtMany)), ((ma 3), .inl (E 0, 16, .inl (upd mf3 (p0 : Int32).toNatClampNeg p1))), ((ma 4), .inl (E 0, 16, .inl (upd mf4 (p0 : Int32).toNatClampNeg p2))), ((ma 5), .inl (E 1, 6400, .inl mf5)), ((ma 8), .inl (E 1, 6400, .inl mf8)), ((ma 9), .inl (E 1, 6400, .inl mf9)), ((ma 10), .inl (E 0, 6400, .inl mf10))] H := hP
            have hD := toW hP hD rfl
            refine lv_iconst (v := 0) hx hb dX9_put_70 (by decide) ?_
            refine lv_istore (lv' := [(4, .int 0), (0, .ref mh), (1, .int p0), (2, .int p1), (3, .int p2)]) hx hb dX9_put_71 hl (by decide) rfl (fun ls hl => ?_)
            have loop_13 : ∀ (N_15 : Nat) (L4_73 : Int32) (mf5_73 : Nat → Int32) (mf8_73 : Nat → Int32) (mf9_73 : Nat → Int32) (mf10_73 : Nat → Int32) (H : Heap) (locs : List Loc) (ls : Array Slot), 400 - L4_73.toInt < (N_15 : Int) → (0 ≤ L4_73.toInt ∧ L4_73.toInt ≤ 400) → (FIL mf5 mf5_73 (400 * p0.toInt) (400 * p0.toInt + L4_73.toInt) 0) → (FIL mf8 mf8_73 (400 * p0.toInt) (400 * p0.toInt + L4_73.toInt) 0) → (FIL mf9 mf9_73 (400 * p0.toInt) (400 * p0.toInt + L4_73.toInt) 0) → (FIL mf10 mf10_73 (400 * p0.toInt) (400 * p0.toInt + L4_73.toInt) (-1)) → va_P D vwCl [(mh, .inr (9, G9 ma mcode mtoday moffs mmany msumW msumA msumR msumWW msumWA msumAA msumWR msumAR mupper mlower mrates mtaped mlaid mat mtk mtkAt mtkNumber mwaits mlisted mdealtMany)), ((ma 3), .inl (E 0, 16, .inl (upd mf3 (p0 : Int32).toNatClampNeg p1))), ((ma 4), .inl (E 0, 16, .inl (upd mf4 (p0 : Int32).toNatClampNeg p2))), ((ma 5), .inl (E 1, 6400, .inl mf5_73)), ((ma 8), .inl (E 1, 6400, .inl mf8_73)), ((ma 9), .inl (E 1, 6400, .inl mf9_73)), ((ma 10), .inl (E 0, 6400, .inl mf10_73))] H → va_D A [(mh, .inr (9, G9 ma mcode mtoday moffs mmany msumW msumA msumR msumWW msumWA msumAA msumWR msumAR mupper mlower mrates mtaped mlaid mat mtk mtkAt mtkNumber mwaits mlisted mdealtMany)), ((ma 3), .inl (E 0, 16, .inl (upd mf3 (p0 : Int32).toNatClampNeg p1))), ((ma 4), .inl (E 0, 16, .inl (upd mf4 (p0 : Int32).toNatClampNeg p2))), ((ma 5), .inl (E 1, 6400, .inl mf5_73)), ((ma 8), .inl (E 1, 6400, .inl mf8_73)), ((ma 9), .inl (E 1, 6400, .inl mf9_73)), ((ma 10), .inl (E 0, 6400, .inl mf10_73))] → va_S A s.heap H locs → lv_has ls 5 [(4, .int L4_73), (0, .ref mh), (1, .int p0), (2, .int p1), (3, .int p2)] → W p l e (headSpec (wl yX9_put cX9_put 5 (some .int)) (RM 2 0 0)).room s m [Value.ref mh, .int p0, .int p1, .int p2].toArray below meth c H locs 0 0 (MQ below (va_Qi (fun (r : Int32) (u : (Nat → Int32) × (Nat → Int32) × (Nat → Int32) × (Nat → Int32) × (Nat → Int32) × (Nat → Int32)) => ((r.toInt = 1 ∧ (0 ≤ p0.toInt ∧ p0.toInt ≤ 15) ∧ ((p1.toInt = 0 ∧ p2.toInt = 0) ∨ (p1.toInt = 1 ∧ -50 ≤ p2.toInt ∧ p2.toInt ≤ 50) ∨ p1.toInt = 2) ∧ (mf3 (p0).toNatClampNeg).toInt = -5 ∧ u.2.1 = upd mf3 (p0).toNatClampNeg p1 ∧ u.2.2.1 = upd mf4 (p0).toNatClampNeg p2 ∧ FIL mf5 u.2.2.2.1 (400 * p0.toInt) (400 * p0.toInt + 400) 0 ∧ FIL mf8 u.2.2.2.2.1 (400 * p0.toInt) (400 * p0.toInt + 400) 0 ∧ FIL mf9 u.2.2.2.2.2 (400 * p0.toInt) (400 * p0.toInt + 400) 0 ∧ FIL mf10 u.1 (400 * p0.toInt) (400 * p0.toInt + 400) (-1)) ∨ (r.toInt = -1 ∧ ¬ ((0 ≤ p0.toInt ∧ p0.toInt ≤ 15) ∧ ((p1.toInt = 0 ∧ p2.toInt = 0) ∨ (p1.toInt = 1 ∧ -50 ≤ p2.toInt ∧ p2.toInt ≤ 50) ∨ p1.toInt = 2)) ∧ u.2.1 = mf3 ∧ u.2.2.1 = mf4 ∧ u.2.2.2.1 = mf5 ∧ u.2.2.2.2.1 = mf8 ∧ u.2.2.2.2.2 = mf9 ∧ u.1 = mf10) ∨ (r.toInt = -4 ∧ (0 ≤ p0.toInt ∧ p0.toInt ≤ 15) ∧ ((p1.toInt = 0 ∧ p2.toInt = 0) ∨ (p1.toInt = 1 ∧ -50 ≤ p2.toInt ∧ p2.toInt ≤ 50) ∨ p1.toInt = 2) ∧ (mf3 (p0).toNatClampNeg).toInt ≠ -5 ∧ u.2.1 = mf3 ∧ u.2.2.1 = mf4 ∧ u.2.2.2.1 = mf5 ∧ u.2.2.2.2.1 = mf8 ∧ u.2.2.2.2.2 = mf9 ∧ u.1 = mf10))) (mu_B D A (fun (u : (Nat → Int32) × (Nat → Int32) × (Nat → Int32) × (Nat → Int32) × (Nat → Int32) × (Nat → Int32)) => [(mh, .inr (9, G9 ma mcode mtoday moffs mmany msumW msumA msumR msumWW msumWA msumAA msumWR msumAR mupper mlower mrates mtaped mlaid mat mtk mtkAt mtkNumber mwaits mlisted mdealtMany)), ((ma 3), .inl (E 0, 16, .inl u.2.1)), ((ma 4), .inl (E 0, 16, .inl u.2.2.1)), ((ma 5), .inl (E 1, 6400, .inl u.2.2.2.1)), ((ma 8), .inl (E 1, 6400, .inl u.2.2.2.2.1)), ((ma 9), .inl (E 1, 6400, .inl u.2.2.2.2.2)), ((ma 10), .inl (E 0, 6400, .inl u.1))])) A) [Value.ref mh, .int p0, .int p1, .int p2].toArray s 0 0 A) (F0 m 73 ls []) := by
              intro N_15
              induction N_15 with
              | zero => intro L4_73 mf5_73 mf8_73 mf9_73 mf10_73 H locs ls hm v0_73 v1_73 v2_73 v3_73 v4_73 _ _ _ _; exfalso; omega
              | succ N_15 ih_14 =>
                intro L4_73 mf5_73 mf8_73 mf9_73 mf10_73 H locs ls hm v0_73 v1_73 v2_73 v3_73 v4_73 hP hD hS hl
                have lo_L4_73 := i_lo L4_73; have hi_L4_73 := i_hi L4_73
                refine lv_iload hx hb dX9_put_73 (lv_at hl 0 rfl) ?_
                refine lv_sipush (v := 400) hx hb dX9_put_75 (by decide) ?_
                refine lv_icmp_ge (tgt := 143) hx hb dX9_put_78 (by decide) (fun c_16 => ?_) (fun c_16 => ?_)
                ·
                  have ic_16 : 400 ≤ L4_73.toInt := by first | exact (g_le t_400 rfl).mp c_16 | (have h := mt (g_lt rfl t_400).mpr c_16; omega)
                  clear c_16
                  refine lv_iconst (v := 1) hx hb dX9_put_143 (by decide) ?_
                  have hP9 := hP.sub (ws' := [(mh, .inr (9, G9 ma mcode mtoday moffs mmany msumW msumA msumR msumWW msumWA msumAA msumWR msumAR mupper mlower mrates mtaped mlaid mat mtk mtkAt mtkNumber mwaits mlisted mdealtMany)), ((ma 3), .inl (E 0, 16, .inl (upd mf3 (p0 : Int32).toNatClampNeg p1))), ((ma 4), .inl (E 0, 16, .inl (upd mf4 (p0 : Int32).toNatClampNeg p2))), ((ma 5), .inl (E 1, 6400, .inl mf5_73)), ((ma 8), .inl (E 1, 6400, .inl mf8_73)), ((ma 9), .inl (E 1, 6400, .inl mf9_73)), ((ma 10), .inl (E 0, 6400, .inl mf10_73))]) [0, 1, 2, 3, 4, 5, 6] rfl
                  have hD9 := hD.sub (ws' := [(mh, .inr (9, G9 ma mcode mtoday moffs mmany msumW msumA msumR msumWW msumWA msumAA msumWR msumAR mupper mlower mrates mtaped mlaid mat mtk mtkAt mtkNumber mwaits mlisted mdealtMany)), ((ma 3), .inl (E 0, 16, .inl (upd mf3 (p0 : Int32).toNatClampNeg p1))), ((ma 4), .inl (E 0, 16, .inl (upd mf4 (p0 : Int32).toNatClampNeg p2))), ((ma 5), .inl (E 1, 6400, .inl mf5_73)), ((ma 8), .inl (E 1, 6400, .inl mf8_73)), ((ma 9), .inl (E 1, 6400, .inl mf9_73)), ((ma 10), .inl (E 0, 6400, .inl mf10_73))]) [0, 1, 2, 3, 4, 5, 6] (by decide) rfl
                  exact W.iret (v := 1) hx hb hr (fun t ht hW => ⟨⟨1, (mf10_73, (upd mf3 (p0 : Int32).toNatClampNeg p1), (upd mf4 (p0 : Int32).toNatClampNeg p2), mf5_73, mf8_73, mf9_73), rfl, (by have hl0 := t_1; (try dsimp only); first | exact Or.inl ⟨by omega, by omega, by omega, by omega, rfl, rfl, FIL_c v1_73 (by omega), FIL_c v2_73 (by omega), FIL_c v3_73 (by omega), FIL_c v4_73 (by omega)⟩ | exact Or.inr (Or.inl ⟨by omega, by omega, rfl, rfl, rfl, rfl, rfl, rfl⟩) | exact Or.inr (Or.inr ⟨by omega, by omega, by omega, by omega, rfl, rfl, rfl, rfl, rfl, rfl⟩)), by rw [ht]; exact hP9, hD9⟩, hS.F ht⟩) hS.2.2 dX9_put_144
                ·
                  have ic_16 : L4_73.toInt < 400 := by first | exact (g_lt rfl t_400).mp c_16 | (have h := mt (g_le t_400 rfl).mpr c_16; omega)
                  clear c_16
                  refine lv_aload_n hx hb dX9_put_81 rfl (lv_at hl 1 rfl) ?_
                  refine va_get (D := D) (ci := 9) (v := .ref (ma 5)) (C := RX9) (T := TX9) (N := 68) hx hb htb iX9 hown hK.1 hP 0 rfl rfl 5 (by decide) (htb _ k_963) (fun _ h9 => h9) rfl dX9_put_82 ?_
                  refine lv_sipush (v := 400) hx hb dX9_put_85 (by decide) ?_
                  refine lv_iload_n hx hb dX9_put_88 rfl (lv_at hl 2 rfl) ?_
                  refine lv_imul hx hb dX9_put_89 ?_
                  refine lv_topi (fun z_17 ez_17 => ?_)
                  have jz_17 : z_17.toInt = 400 * p0.toInt := by rw [ez_17]; exact g_mul t_400 rfl (by omega) (by omega)
                  refine lv_iload hx hb dX9_put_90 (lv_at hl 0 rfl) ?_
                  refine lv_iadd hx hb dX9_put_92 ?_
                  refine lv_topi (fun z_18 ez_18 => ?_)
                  have jz_18 : z_18.toInt = z_17.toInt + L4_73.toInt := by rw [ez_18]; exact g_add rfl rfl (by omega) (by omega)
                  refine lv_iconst (v := 0) hx hb dX9_put_93 (by decide) ?_
                  refine va_zast hx hb hK.1 hP hD hS 3 1 rfl rfl (g_in rfl (by omega) (by omega)) dX9_put_94 (fun H locs hP hD hS => ?_)
                  have hP : va_P D vwCl [(mh, .inr (9, G9 ma mcode mtoday moffs mmany msumW msumA msumR msumWW msumWA msumAA msumWR msumAR mupper mlower mrates mtaped mlaid mat mtk mtkAt mtkNumber mwaits mlisted mdealtMany)), ((ma 3), .inl (E 0, 16, .inl (upd mf3 (p0 : Int32).toNatClampNeg p1))), ((ma 4), .inl (E 0, 16, .inl (upd mf4 (p0 : Int32).toNatClampNeg p2))), ((ma 5), .inl (E 1, 6400, .inl (upd mf5_73 (z_18 : Int32).toNatClampNeg (vp_nar .boolean 0)))), ((ma 8), .inl (E 1, 6400, .inl mf8_73)), ((ma 9), .inl (E 1, 6400, .inl mf9_73)), ((ma 10), .inl (E 0, 6400, .inl mf10_73))] H := hP
                  have hD := toW hP hD rfl
                  refine lv_aload_n hx hb dX9_put_95 rfl (lv_at hl 1 rfl) ?_
                  refine va_get (D := D) (ci := 9) (v := .ref (ma 8)) (C := RX9) (T := TX9) (N := 68) hx hb htb iX9 hown hK.1 hP 0 rfl rfl 8 (by decide) (htb _ k_966) (fun _ h9 => h9) rfl dX9_put_96 ?_
                  refine lv_sipush (v := 400) hx hb dX9_put_99 (by decide) ?_
                  refine lv_iload_n hx hb dX9_put_102 rfl (lv_at hl 2 rfl) ?_
                  refine lv_imul hx hb dX9_put_103 ?_
                  refine lv_topi (fun z_19 ez_19 => ?_)
                  have jz_19 : z_19.toInt = 400 * p0.toInt := by rw [ez_19]; exact g_mul t_400 rfl (by omega) (by omega)
                  refine lv_iload hx hb dX9_put_104 (lv_at hl 0 rfl) ?_
                  refine lv_iadd hx hb dX9_put_106 ?_
                  refine lv_topi (fun z_20 ez_20 => ?_)
                  have jz_20 : z_20.toInt = z_19.toInt + L4_73.toInt := by rw [ez_20]; exact g_add rfl rfl (by omega) (by omega)
                  refine lv_iconst (v := 0) hx hb dX9_put_107 (by decide) ?_
                  refine va_zast hx hb hK.1 hP hD hS 4 1 rfl rfl (g_in rfl (by omega) (by omega)) dX9_put_108 (fun H locs hP hD hS => ?_)
                  have hP : va_P D vwCl [(mh, .inr (9, G9 ma mcode mtoday moffs mmany msumW msumA msumR msumWW msumWA msumAA msumWR msumAR mupper mlower mrates mtaped mlaid mat mtk mtkAt mtkNumber mwaits mlisted mdealtMany)), ((ma 3), .inl (E 0, 16, .inl (upd mf3 (p0 : Int32).toNatClampNeg p1))), ((ma 4), .inl (E 0, 16, .inl (upd mf4 (p0 : Int32).toNatClampNeg p2))), ((ma 5), .inl (E 1, 6400, .inl (upd mf5_73 (z_18 : Int32).toNatClampNeg (vp_nar .boolean 0)))), ((ma 8), .inl (E 1, 6400, .inl (upd mf8_73 (z_20 : Int32).toNatClampNeg (vp_nar .boolean 0)))), ((ma 9), .inl (E 1, 6400, .inl mf9_73)), ((ma 10), .inl (E 0, 6400, .inl mf10_73))] H := hP
                  have hD := toW hP hD rfl
                  refine lv_aload_n hx hb dX9_put_109 rfl (lv_at hl 1 rfl) ?_
                  refine va_get (D := D) (ci := 9) (v := .ref (ma 9)) (C := RX9) (T := TX9) (N := 68) hx hb htb iX9 hown hK.1 hP 0 rfl rfl 9 (by decide) (htb _ k_967) (fun _ h9 => h9) rfl dX9_put_110 ?_
                  refine lv_sipush (v := 400) hx hb dX9_put_113 (by decide) ?_
                  refine lv_iload_n hx hb dX9_put_116 rfl (lv_at hl 2 rfl) ?_
                  refine lv_imul hx hb dX9_put_117 ?_
                  refine lv_topi (fun z_21 ez_21 => ?_)
                  have jz_21 : z_21.toInt = 400 * p0.toInt := by rw [ez_21]; exact g_mul t_400 rfl (by omega) (by omega)
                  refine lv_iload hx hb dX9_put_118 (lv_at hl 0 rfl) ?_
                  refine lv_iadd hx hb dX9_put_120 ?_
                  refine lv_topi (fun z_22 ez_22 => ?_)
                  have jz_22 : z_22.toInt = z_21.toInt + L4_73.toInt := by rw [ez_22]; exact g_add rfl rfl (by omega) (by omega)
                  refine lv_iconst (v := 0) hx hb dX9_put_121 (by decide) ?_
                  refine va_zast hx hb hK.1 hP hD hS 5 1 rfl rfl (g_in rfl (by omega) (by omega)) dX9_put_122 (fun H locs hP hD hS => ?_)
                  have hP : va_P D vwCl [(mh, .inr (9, G9 ma mcode mtoday moffs mmany msumW msumA msumR msumWW msumWA msumAA msumWR msumAR mupper mlower mrates mtaped mlaid mat mtk mtkAt mtkNumber mwaits mlisted mdealtMany)), ((ma 3), .inl (E 0, 16, .inl (upd mf3 (p0 : Int32).toNatClampNeg p1))), ((ma 4), .inl (E 0, 16, .inl (upd mf4 (p0 : Int32).toNatClampNeg p2))), ((ma 5), .inl (E 1, 6400, .inl (upd mf5_73 (z_18 : Int32).toNatClampNeg (vp_nar .boolean 0)))), ((ma 8), .inl (E 1, 6400, .inl (upd mf8_73 (z_20 : Int32).toNatClampNeg (vp_nar .boolean 0)))), ((ma 9), .inl (E 1, 6400, .inl (upd mf9_73 (z_22 : Int32).toNatClampNeg (vp_nar .boolean 0)))), ((ma 10), .inl (E 0, 6400, .inl mf10_73))] H := hP
                  have hD := toW hP hD rfl
                  refine lv_aload_n hx hb dX9_put_123 rfl (lv_at hl 1 rfl) ?_
                  refine va_get (D := D) (ci := 9) (v := .ref (ma 10)) (C := RX9) (T := TX9) (N := 68) hx hb htb iX9 hown hK.1 hP 0 rfl rfl 10 (by decide) (htb _ k_968) (fun _ h9 => h9) rfl dX9_put_124 ?_
                  refine lv_sipush (v := 400) hx hb dX9_put_127 (by decide) ?_
                  refine lv_iload_n hx hb dX9_put_130 rfl (lv_at hl 2 rfl) ?_
                  refine lv_imul hx hb dX9_put_131 ?_
                  refine lv_topi (fun z_23 ez_23 => ?_)
                  have jz_23 : z_23.toInt = 400 * p0.toInt := by rw [ez_23]; exact g_mul t_400 rfl (by omega) (by omega)
                  refine lv_iload hx hb dX9_put_132 (lv_at hl 0 rfl) ?_
                  refine lv_iadd hx hb dX9_put_134 ?_
                  refine lv_topi (fun z_24 ez_24 => ?_)
                  have jz_24 : z_24.toInt = z_23.toInt + L4_73.toInt := by rw [ez_24]; exact g_add rfl rfl (by omega) (by omega)
                  refine lv_iconst (v := (-1)) hx hb dX9_put_135 (by decide) ?_
                  refine va_iast hx hb hK.1 hP hD hS 6 0 rfl rfl (g_in rfl (by omega) (by omega)) dX9_put_136 (fun H locs hP hD hS => ?_)
                  have hP : va_P D vwCl [(mh, .inr (9, G9 ma mcode mtoday moffs mmany msumW msumA msumR msumWW msumWA msumAA msumWR msumAR mupper mlower mrates mtaped mlaid mat mtk mtkAt mtkNumber mwaits mlisted mdealtMany)), ((ma 3), .inl (E 0, 16, .inl (upd mf3 (p0 : Int32).toNatClampNeg p1))), ((ma 4), .inl (E 0, 16, .inl (upd mf4 (p0 : Int32).toNatClampNeg p2))), ((ma 5), .inl (E 1, 6400, .inl (upd mf5_73 (z_18 : Int32).toNatClampNeg (vp_nar .boolean 0)))), ((ma 8), .inl (E 1, 6400, .inl (upd mf8_73 (z_20 : Int32).toNatClampNeg (vp_nar .boolean 0)))), ((ma 9), .inl (E 1, 6400, .inl (upd mf9_73 (z_22 : Int32).toNatClampNeg (vp_nar .boolean 0)))), ((ma 10), .inl (E 0, 6400, .inl (upd mf10_73 (z_24 : Int32).toNatClampNeg (-1))))] H := hP
                  have hD := toW hP hD rfl
                  obtain ⟨z_25, ez_25⟩ : ∃ y : Int32, y = L4_73 + 1 := ⟨_, rfl⟩
                  have jz_25 : z_25.toInt = L4_73.toInt + 1 := by rw [ez_25]; exact g_add rfl t_1 (by omega) (by omega)
                  refine lv_iinc (v := z_25) (lv' := [(4, .int z_25), (0, .ref mh), (1, .int p0), (2, .int p1), (3, .int p2)]) hx hb dX9_put_137 hl (k := 0) rfl (by rw [ez_25]; rfl) (by decide) rfl (fun ls hl => ?_)
                  refine lv_goto (tgt := 73) hx hb dX9_put_140 (by decide) ?_
                  exact ih_14 z_25 (upd mf5_73 (z_18 : Int32).toNatClampNeg (vp_nar .boolean 0)) (upd mf8_73 (z_20 : Int32).toNatClampNeg (vp_nar .boolean 0)) (upd mf9_73 (z_22 : Int32).toNatClampNeg (vp_nar .boolean 0)) (upd mf10_73 (z_24 : Int32).toNatClampNeg (-1)) _ _ _ (by (try dsimp only); omega) (by (try dsimp only); omega) (FIL_s v1_73 (i := z_18) (by omega) (by omega) (by omega) (by omega) (by decide)) (FIL_s v2_73 (i := z_20) (by omega) (by omega) (by omega) (by omega) (by decide)) (FIL_s v3_73 (i := z_22) (by omega) (by omega) (by omega) (by omega) (by decide)) (FIL_s v4_73 (i := z_24) (by omega) (by omega) (by omega) (by omega) (by decide)) hP hD hS (lv_sub hl [0, 1, 2, 3, 4] rfl)
            exact loop_13 401 0 mf5 mf8 mf9 mf10 _ _ _ (by have h0 := t_0; (try dsimp only); omega) (by have h0 := t_0; (try dsimp only); omega) (FIL_0 (by have h0 := t_0; omega)) (FIL_0 (by have h0 := t_0; omega)) (FIL_0 (by have h0 := t_0; omega)) (FIL_0 (by have h0 := t_0; omega)) hP hD hS (lv_sub hl [0, 1, 2, 3, 4] rfl)
          ·
            have ic_12 : z_11.toInt ≠ -5 := mt (g_eq rfl t_m5).mpr c_12
            clear c_12
            refine lv_bipush (v := (-4)) hx hb dX9_put_53 (by decide) ?_
            have hP9 := hP.sub (ws' := [(mh, .inr (9, G9 ma mcode mtoday moffs mmany msumW msumA msumR msumWW msumWA msumAA msumWR msumAR mupper mlower mrates mtaped mlaid mat mtk mtkAt mtkNumber mwaits mlisted mdealtMany)), ((ma 3), .inl (E 0, 16, .inl mf3)), ((ma 4), .inl (E 0, 16, .inl mf4)), ((ma 5), .inl (E 1, 6400, .inl mf5)), ((ma 8), .inl (E 1, 6400, .inl mf8)), ((ma 9), .inl (E 1, 6400, .inl mf9)), ((ma 10), .inl (E 0, 6400, .inl mf10))]) [0, 1, 2, 3, 4, 5, 6] rfl
            have hD9 := hD.sub (ws' := [(mh, .inr (9, G9 ma mcode mtoday moffs mmany msumW msumA msumR msumWW msumWA msumAA msumWR msumAR mupper mlower mrates mtaped mlaid mat mtk mtkAt mtkNumber mwaits mlisted mdealtMany)), ((ma 3), .inl (E 0, 16, .inl mf3)), ((ma 4), .inl (E 0, 16, .inl mf4)), ((ma 5), .inl (E 1, 6400, .inl mf5)), ((ma 8), .inl (E 1, 6400, .inl mf8)), ((ma 9), .inl (E 1, 6400, .inl mf9)), ((ma 10), .inl (E 0, 6400, .inl mf10))]) [0, 1, 2, 3, 4, 5, 6] (by decide) rfl
            exact W.iret (v := (-4)) hx hb hr (fun t ht hW => ⟨⟨(-4), (mf10, mf3, mf4, mf5, mf8, mf9), rfl, (by have hl0 := t_m4; (try dsimp only); first | exact Or.inl ⟨by omega, by omega, by omega, by omega, rfl, rfl, FIL_c v1_73 (by omega), FIL_c v2_73 (by omega), FIL_c v3_73 (by omega), FIL_c v4_73 (by omega)⟩ | exact Or.inr (Or.inl ⟨by omega, by omega, rfl, rfl, rfl, rfl, rfl, rfl⟩) | exact Or.inr (Or.inr ⟨by omega, by omega, by omega, by omega, rfl, rfl, rfl, rfl, rfl, rfl⟩)), by rw [ht]; exact hP9, hD9⟩, hS.F ht⟩) hS.2.2 dX9_put_55
        ·
          have ic_10 : p1.toInt = 1 := (g_eq rfl t_1).mp c_10
          clear c_10
          refine lv_iload_n hx hb dX9_put_29 rfl (lv_at hl 3 rfl) ?_
          refine lv_bipush (v := (-50)) hx hb dX9_put_30 (by decide) ?_
          refine lv_bipush (v := 50) hx hb dX9_put_32 (by decide) ?_
          refine callRS (rest := []) (As := [.int p2, .int (-50), .int 50]) hx hb hml hown htb hK (g_X9_in l D E p2 (-50) 50 ) ok_X9_in k_1168 k_1169 k_9 k_1170 ⟨(Nat.le_of_ble_eq_true rfl), (Nat.le_of_ble_eq_true rfl)⟩ ⟨(Nat.le_of_ble_eq_true rfl), (Nat.le_of_ble_eq_true rfl)⟩ hl.1 (Nat.le_of_ble_eq_true rfl) rfl rfl dX9_put_34 (hP.sub (ws' := ([] : va_W)) [] rfl) (fun r_26 hw_27 => ?_)
          try simp only [t_m50, t_50] at hw_27
          rcases hw_27 with ⟨hr_26, hw_27⟩ | ⟨hr_26, hw_27⟩
          ·
            try simp only [t_m50, t_50] at hw_27
            refine W_top (y := .int 1) (by rw [hr_26]) ?_
            refine lv_if_ne (tgt := 42) hx hb dX9_put_37 (by decide) (fun c_29 => ?_) (fun c_29 => absurd c_29 (by decide))
            refine lv_aload_n hx hb dX9_put_42 rfl (lv_at hl 0 rfl) ?_
            refine va_get (D := D) (ci := 9) (v := .ref (ma 3)) (C := RX9) (T := TX9) (N := 68) hx hb htb iX9 hown hK.1 hP 0 rfl rfl 3 (by decide) (htb _ k_961) (fun _ h9 => h9) rfl dX9_put_43 ?_
            refine lv_iload_n hx hb dX9_put_46 rfl (lv_at hl 1 rfl) ?_
            refine va_iald hx hb hK.1 hP 1 0 rfl rfl (g_in rfl (by omega) (by omega)) dX9_put_47 ?_
            refine lv_topi (fun z_30 ez_30 => ?_)
            have kz_30 := congrArg Int32.toInt ez_30
            refine lv_bipush (v := (-5)) hx hb dX9_put_48 (by decide) ?_
            refine lv_icmp_eq (tgt := 56) hx hb dX9_put_50 (by decide) (fun c_31 => ?_) (fun c_31 => ?_)
            ·
              have ic_31 : z_30.toInt = -5 := (g_eq rfl t_m5).mp c_31
              clear c_31
              refine lv_aload_n hx hb dX9_put_56 rfl (lv_at hl 0 rfl) ?_
              refine va_get (D := D) (ci := 9) (v := .ref (ma 3)) (C := RX9) (T := TX9) (N := 68) hx hb htb iX9 hown hK.1 hP 0 rfl rfl 3 (by decide) (htb _ k_961) (fun _ h9 => h9) rfl dX9_put_57 ?_
              refine lv_iload_n hx hb dX9_put_60 rfl (lv_at hl 1 rfl) ?_
              refine lv_iload_n hx hb dX9_put_61 rfl (lv_at hl 2 rfl) ?_
              refine va_iast hx hb hK.1 hP hD hS 1 0 rfl rfl (g_in rfl (by omega) (by omega)) dX9_put_62 (fun H locs hP hD hS => ?_)
              have hP : va_P D vwCl [(mh, .inr (9, G9 ma mcode mtoday moffs mmany msumW msumA msumR msumWW msumWA msumAA msumWR msumAR mupper mlower mrates mtaped mlaid mat mtk mtkAt mtkNumber mwaits mlisted mdealtMany)), ((ma 3), .inl (E 0, 16, .inl (upd mf3 (p0 : Int32).toNatClampNeg p1))), ((ma 4), .inl (E 0, 16, .inl mf4)), ((ma 5), .inl (E 1, 6400, .inl mf5)), ((ma 8), .inl (E 1, 6400, .inl mf8)), ((ma 9), .inl (E 1, 6400, .inl mf9)), ((ma 10), .inl (E 0, 6400, .inl mf10))] H := hP
              have hD := toW hP hD rfl
              refine lv_aload_n hx hb dX9_put_63 rfl (lv_at hl 0 rfl) ?_
              refine va_get (D := D) (ci := 9) (v := .ref (ma 4)) (C := RX9) (T := TX9) (N := 68) hx hb htb iX9 hown hK.1 hP 0 rfl rfl 4 (by decide) (htb _ k_962) (fun _ h9 => h9) rfl dX9_put_64 ?_
              refine lv_iload_n hx hb dX9_put_67 rfl (lv_at hl 1 rfl) ?_
              refine lv_iload_n hx hb dX9_put_68 rfl (lv_at hl 3 rfl) ?_
              refine va_iast hx hb hK.1 hP hD hS 2 0 rfl rfl (g_in rfl (by omega) (by omega)) dX9_put_69 (fun H locs hP hD hS => ?_)
              have hP : va_P D vwCl [(mh, .inr (9, G9 ma mcode mtoday moffs mmany msumW msumA msumR msumWW msumWA msumAA msumWR msumAR mupper mlower mrates mtaped mlaid mat mtk mtkAt mtkNumber mwaits mlisted mdealtMany)), ((ma 3), .inl (E 0, 16, .inl (upd mf3 (p0 : Int32).toNatClampNeg p1))), ((ma 4), .inl (E 0, 16, .inl (upd mf4 (p0 : Int32).toNatClampNeg p2))), ((ma 5), .inl (E 1, 6400, .inl mf5)), ((ma 8), .inl (E 1, 6400, .inl mf8)), ((ma 9), .inl (E 1, 6400, .inl mf9)), ((ma 10), .inl (E 0, 6400, .inl mf10))] H := hP
              have hD := toW hP hD rfl
              refine lv_iconst (v := 0) hx hb dX9_put_70 (by decide) ?_
              refine lv_istore (lv' := [(4, .int 0), (0, .ref mh), (1, .int p0), (2, .int p1), (3, .int p2)]) hx hb dX9_put_71 hl (by decide) rfl (fun ls hl => ?_)
              have loop_32 : ∀ (N_34 : Nat) (L4_73 : Int32) (mf5_73 : Nat → Int32) (mf8_73 : Nat → Int32) (mf9_73 : Nat → Int32) (mf10_73 : Nat → Int32) (H : Heap) (locs : List Loc) (ls : Array Slot), 400 - L4_73.toInt < (N_34 : Int) → (0 ≤ L4_73.toInt ∧ L4_73.toInt ≤ 400) → (FIL mf5 mf5_73 (400 * p0.toInt) (400 * p0.toInt + L4_73.toInt) 0) → (FIL mf8 mf8_73 (400 * p0.toInt) (400 * p0.toInt + L4_73.toInt) 0) → (FIL mf9 mf9_73 (400 * p0.toInt) (400 * p0.toInt + L4_73.toInt) 0) → (FIL mf10 mf10_73 (400 * p0.toInt) (400 * p0.toInt + L4_73.toInt) (-1)) → va_P D vwCl [(mh, .inr (9, G9 ma mcode mtoday moffs mmany msumW msumA msumR msumWW msumWA msumAA msumWR msumAR mupper mlower mrates mtaped mlaid mat mtk mtkAt mtkNumber mwaits mlisted mdealtMany)), ((ma 3), .inl (E 0, 16, .inl (upd mf3 (p0 : Int32).toNatClampNeg p1))), ((ma 4), .inl (E 0, 16, .inl (upd mf4 (p0 : Int32).toNatClampNeg p2))), ((ma 5), .inl (E 1, 6400, .inl mf5_73)), ((ma 8), .inl (E 1, 6400, .inl mf8_73)), ((ma 9), .inl (E 1, 6400, .inl mf9_73)), ((ma 10), .inl (E 0, 6400, .inl mf10_73))] H → va_D A [(mh, .inr (9, G9 ma mcode mtoday moffs mmany msumW msumA msumR msumWW msumWA msumAA msumWR msumAR mupper mlower mrates mtaped mlaid mat mtk mtkAt mtkNumber mwaits mlisted mdealtMany)), ((ma 3), .inl (E 0, 16, .inl (upd mf3 (p0 : Int32).toNatClampNeg p1))), ((ma 4), .inl (E 0, 16, .inl (upd mf4 (p0 : Int32).toNatClampNeg p2))), ((ma 5), .inl (E 1, 6400, .inl mf5_73)), ((ma 8), .inl (E 1, 6400, .inl mf8_73)), ((ma 9), .inl (E 1, 6400, .inl mf9_73)), ((ma 10), .inl (E 0, 6400, .inl mf10_73))] → va_S A s.heap H locs → lv_has ls 5 [(4, .int L4_73), (0, .ref mh), (1, .int p0), (2, .int p1), (3, .int p2)] → W p l e (headSpec (wl yX9_put cX9_put 5 (some .int)) (RM 2 0 0)).room s m [Value.ref mh, .int p0, .int p1, .int p2].toArray below meth c H locs 0 0 (MQ below (va_Qi (fun (r : Int32) (u : (Nat → Int32) × (Nat → Int32) × (Nat → Int32) × (Nat → Int32) × (Nat → Int32) × (Nat → Int32)) => ((r.toInt = 1 ∧ (0 ≤ p0.toInt ∧ p0.toInt ≤ 15) ∧ ((p1.toInt = 0 ∧ p2.toInt = 0) ∨ (p1.toInt = 1 ∧ -50 ≤ p2.toInt ∧ p2.toInt ≤ 50) ∨ p1.toInt = 2) ∧ (mf3 (p0).toNatClampNeg).toInt = -5 ∧ u.2.1 = upd mf3 (p0).toNatClampNeg p1 ∧ u.2.2.1 = upd mf4 (p0).toNatClampNeg p2 ∧ FIL mf5 u.2.2.2.1 (400 * p0.toInt) (400 * p0.toInt + 400) 0 ∧ FIL mf8 u.2.2.2.2.1 (400 * p0.toInt) (400 * p0.toInt + 400) 0 ∧ FIL mf9 u.2.2.2.2.2 (400 * p0.toInt) (400 * p0.toInt + 400) 0 ∧ FIL mf10 u.1 (400 * p0.toInt) (400 * p0.toInt + 400) (-1)) ∨ (r.toInt = -1 ∧ ¬ ((0 ≤ p0.toInt ∧ p0.toInt ≤ 15) ∧ ((p1.toInt = 0 ∧ p2.toInt = 0) ∨ (p1.toInt = 1 ∧ -50 ≤ p2.toInt ∧ p2.toInt ≤ 50) ∨ p1.toInt = 2)) ∧ u.2.1 = mf3 ∧ u.2.2.1 = mf4 ∧ u.2.2.2.1 = mf5 ∧ u.2.2.2.2.1 = mf8 ∧ u.2.2.2.2.2 = mf9 ∧ u.1 = mf10) ∨ (r.toInt = -4 ∧ (0 ≤ p0.toInt ∧ p0.toInt ≤ 15) ∧ ((p1.toInt = 0 ∧ p2.toInt = 0) ∨ (p1.toInt = 1 ∧ -50 ≤ p2.toInt ∧ p2.toInt ≤ 50) ∨ p1.toInt = 2) ∧ (mf3 (p0).toNatClampNeg).toInt ≠ -5 ∧ u.2.1 = mf3 ∧ u.2.2.1 = mf4 ∧ u.2.2.2.1 = mf5 ∧ u.2.2.2.2.1 = mf8 ∧ u.2.2.2.2.2 = mf9 ∧ u.1 = mf10))) (mu_B D A (fun (u : (Nat → Int32) × (Nat → Int32) × (Nat → Int32) × (Nat → Int32) × (Nat → Int32) × (Nat → Int32)) => [(mh, .inr (9, G9 ma mcode mtoday moffs mmany msumW msumA msumR msumWW msumWA msumAA msumWR msumAR mupper mlower mrates mtaped mlaid mat mtk mtkAt mtkNumber mwaits mlisted mdealtMany)), ((ma 3), .inl (E 0, 16, .inl u.2.1)), ((ma 4), .inl (E 0, 16, .inl u.2.2.1)), ((ma 5), .inl (E 1, 6400, .inl u.2.2.2.1)), ((ma 8), .inl (E 1, 6400, .inl u.2.2.2.2.1)), ((ma 9), .inl (E 1, 6400, .inl u.2.2.2.2.2)), ((ma 10), .inl (E 0, 6400, .inl u.1))])) A) [Value.ref mh, .int p0, .int p1, .int p2].toArray s 0 0 A) (F0 m 73 ls []) := by
                intro N_34
                induction N_34 with
                | zero => intro L4_73 mf5_73 mf8_73 mf9_73 mf10_73 H locs ls hm v0_73 v1_73 v2_73 v3_73 v4_73 _ _ _ _; exfalso; omega
                | succ N_34 ih_33 =>
                  intro L4_73 mf5_73 mf8_73 mf9_73 mf10_73 H locs ls hm v0_73 v1_73 v2_73 v3_73 v4_73 hP hD hS hl
                  have lo_L4_73 := i_lo L4_73; have hi_L4_73 := i_hi L4_73
                  refine lv_iload hx hb dX9_put_73 (lv_at hl 0 rfl) ?_
                  refine lv_sipush (v := 400) hx hb dX9_put_75 (by decide) ?_
                  refine lv_icmp_ge (tgt := 143) hx hb dX9_put_78 (by decide) (fun c_35 => ?_) (fun c_35 => ?_)
                  ·
                    have ic_35 : 400 ≤ L4_73.toInt := by first | exact (g_le t_400 rfl).mp c_35 | (have h := mt (g_lt rfl t_400).mpr c_35; omega)
                    clear c_35
                    refine lv_iconst (v := 1) hx hb dX9_put_143 (by decide) ?_
                    have hP9 := hP.sub (ws' := [(mh, .inr (9, G9 ma mcode mtoday moffs mmany msumW msumA msumR msumWW msumWA msumAA msumWR msumAR mupper mlower mrates mtaped mlaid mat mtk mtkAt mtkNumber mwaits mlisted mdealtMany)), ((ma 3), .inl (E 0, 16, .inl (upd mf3 (p0 : Int32).toNatClampNeg p1))), ((ma 4), .inl (E 0, 16, .inl (upd mf4 (p0 : Int32).toNatClampNeg p2))), ((ma 5), .inl (E 1, 6400, .inl mf5_73)), ((ma 8), .inl (E 1, 6400, .inl mf8_73)), ((ma 9), .inl (E 1, 6400, .inl mf9_73)), ((ma 10), .inl (E 0, 6400, .inl mf10_73))]) [0, 1, 2, 3, 4, 5, 6] rfl
                    have hD9 := hD.sub (ws' := [(mh, .inr (9, G9 ma mcode mtoday moffs mmany msumW msumA msumR msumWW msumWA msumAA msumWR msumAR mupper mlower mrates mtaped mlaid mat mtk mtkAt mtkNumber mwaits mlisted mdealtMany)), ((ma 3), .inl (E 0, 16, .inl (upd mf3 (p0 : Int32).toNatClampNeg p1))), ((ma 4), .inl (E 0, 16, .inl (upd mf4 (p0 : Int32).toNatClampNeg p2))), ((ma 5), .inl (E 1, 6400, .inl mf5_73)), ((ma 8), .inl (E 1, 6400, .inl mf8_73)), ((ma 9), .inl (E 1, 6400, .inl mf9_73)), ((ma 10), .inl (E 0, 6400, .inl mf10_73))]) [0, 1, 2, 3, 4, 5, 6] (by decide) rfl
                    exact W.iret (v := 1) hx hb hr (fun t ht hW => ⟨⟨1, (mf10_73, (upd mf3 (p0 : Int32).toNatClampNeg p1), (upd mf4 (p0 : Int32).toNatClampNeg p2), mf5_73, mf8_73, mf9_73), rfl, (by have hl0 := t_1; (try dsimp only); first | exact Or.inl ⟨by omega, by omega, by omega, by omega, rfl, rfl, FIL_c v1_73 (by omega), FIL_c v2_73 (by omega), FIL_c v3_73 (by omega), FIL_c v4_73 (by omega)⟩ | exact Or.inr (Or.inl ⟨by omega, by omega, rfl, rfl, rfl, rfl, rfl, rfl⟩) | exact Or.inr (Or.inr ⟨by omega, by omega, by omega, by omega, rfl, rfl, rfl, rfl, rfl, rfl⟩)), by rw [ht]; exact hP9, hD9⟩, hS.F ht⟩) hS.2.2 dX9_put_144
                  ·
                    have ic_35 : L4_73.toInt < 400 := by first | exact (g_lt rfl t_400).mp c_35 | (have h := mt (g_le t_400 rfl).mpr c_35; omega)
                    clear c_35
                    refine lv_aload_n hx hb dX9_put_81 rfl (lv_at hl 1 rfl) ?_
                    refine va_get (D := D) (ci := 9) (v := .ref (ma 5)) (C := RX9) (T := TX9) (N := 68) hx hb htb iX9 hown hK.1 hP 0 rfl rfl 5 (by decide) (htb _ k_963) (fun _ h9 => h9) rfl dX9_put_82 ?_
                    refine lv_sipush (v := 400) hx hb dX9_put_85 (by decide) ?_
                    refine lv_iload_n hx hb dX9_put_88 rfl (lv_at hl 2 rfl) ?_
                    refine lv_imul hx hb dX9_put_89 ?_
                    refine lv_topi (fun z_36 ez_36 => ?_)
                    have jz_36 : z_36.toInt = 400 * p0.toInt := by rw [ez_36]; exact g_mul t_400 rfl (by omega) (by omega)
                    refine lv_iload hx hb dX9_put_90 (lv_at hl 0 rfl) ?_
                    refine lv_iadd hx hb dX9_put_92 ?_
                    refine lv_topi (fun z_37 ez_37 => ?_)
                    have jz_37 : z_37.toInt = z_36.toInt + L4_73.toInt := by rw [ez_37]; exact g_add rfl rfl (by omega) (by omega)
                    refine lv_iconst (v := 0) hx hb dX9_put_93 (by decide) ?_
                    refine va_zast hx hb hK.1 hP hD hS 3 1 rfl rfl (g_in rfl (by omega) (by omega)) dX9_put_94 (fun H locs hP hD hS => ?_)
                    have hP : va_P D vwCl [(mh, .inr (9, G9 ma mcode mtoday moffs mmany msumW msumA msumR msumWW msumWA msumAA msumWR msumAR mupper mlower mrates mtaped mlaid mat mtk mtkAt mtkNumber mwaits mlisted mdealtMany)), ((ma 3), .inl (E 0, 16, .inl (upd mf3 (p0 : Int32).toNatClampNeg p1))), ((ma 4), .inl (E 0, 16, .inl (upd mf4 (p0 : Int32).toNatClampNeg p2))), ((ma 5), .inl (E 1, 6400, .inl (upd mf5_73 (z_37 : Int32).toNatClampNeg (vp_nar .boolean 0)))), ((ma 8), .inl (E 1, 6400, .inl mf8_73)), ((ma 9), .inl (E 1, 6400, .inl mf9_73)), ((ma 10), .inl (E 0, 6400, .inl mf10_73))] H := hP
                    have hD := toW hP hD rfl
                    refine lv_aload_n hx hb dX9_put_95 rfl (lv_at hl 1 rfl) ?_
                    refine va_get (D := D) (ci := 9) (v := .ref (ma 8)) (C := RX9) (T := TX9) (N := 68) hx hb htb iX9 hown hK.1 hP 0 rfl rfl 8 (by decide) (htb _ k_966) (fun _ h9 => h9) rfl dX9_put_96 ?_
                    refine lv_sipush (v := 400) hx hb dX9_put_99 (by decide) ?_
                    refine lv_iload_n hx hb dX9_put_102 rfl (lv_at hl 2 rfl) ?_
                    refine lv_imul hx hb dX9_put_103 ?_
                    refine lv_topi (fun z_38 ez_38 => ?_)
                    have jz_38 : z_38.toInt = 400 * p0.toInt := by rw [ez_38]; exact g_mul t_400 rfl (by omega) (by omega)
                    refine lv_iload hx hb dX9_put_104 (lv_at hl 0 rfl) ?_
                    refine lv_iadd hx hb dX9_put_106 ?_
                    refine lv_topi (fun z_39 ez_39 => ?_)
                    have jz_39 : z_39.toInt = z_38.toInt + L4_73.toInt := by rw [ez_39]; exact g_add rfl rfl (by omega) (by omega)
                    refine lv_iconst (v := 0) hx hb dX9_put_107 (by decide) ?_
                    refine va_zast hx hb hK.1 hP hD hS 4 1 rfl rfl (g_in rfl (by omega) (by omega)) dX9_put_108 (fun H locs hP hD hS => ?_)
                    have hP : va_P D vwCl [(mh, .inr (9, G9 ma mcode mtoday moffs mmany msumW msumA msumR msumWW msumWA msumAA msumWR msumAR mupper mlower mrates mtaped mlaid mat mtk mtkAt mtkNumber mwaits mlisted mdealtMany)), ((ma 3), .inl (E 0, 16, .inl (upd mf3 (p0 : Int32).toNatClampNeg p1))), ((ma 4), .inl (E 0, 16, .inl (upd mf4 (p0 : Int32).toNatClampNeg p2))), ((ma 5), .inl (E 1, 6400, .inl (upd mf5_73 (z_37 : Int32).toNatClampNeg (vp_nar .boolean 0)))), ((ma 8), .inl (E 1, 6400, .inl (upd mf8_73 (z_39 : Int32).toNatClampNeg (vp_nar .boolean 0)))), ((ma 9), .inl (E 1, 6400, .inl mf9_73)), ((ma 10), .inl (E 0, 6400, .inl mf10_73))] H := hP
                    have hD := toW hP hD rfl
                    refine lv_aload_n hx hb dX9_put_109 rfl (lv_at hl 1 rfl) ?_
                    refine va_get (D := D) (ci := 9) (v := .ref (ma 9)) (C := RX9) (T := TX9) (N := 68) hx hb htb iX9 hown hK.1 hP 0 rfl rfl 9 (by decide) (htb _ k_967) (fun _ h9 => h9) rfl dX9_put_110 ?_
                    refine lv_sipush (v := 400) hx hb dX9_put_113 (by decide) ?_
                    refine lv_iload_n hx hb dX9_put_116 rfl (lv_at hl 2 rfl) ?_
                    refine lv_imul hx hb dX9_put_117 ?_
                    refine lv_topi (fun z_40 ez_40 => ?_)
                    have jz_40 : z_40.toInt = 400 * p0.toInt := by rw [ez_40]; exact g_mul t_400 rfl (by omega) (by omega)
                    refine lv_iload hx hb dX9_put_118 (lv_at hl 0 rfl) ?_
                    refine lv_iadd hx hb dX9_put_120 ?_
                    refine lv_topi (fun z_41 ez_41 => ?_)
                    have jz_41 : z_41.toInt = z_40.toInt + L4_73.toInt := by rw [ez_41]; exact g_add rfl rfl (by omega) (by omega)
                    refine lv_iconst (v := 0) hx hb dX9_put_121 (by decide) ?_
                    refine va_zast hx hb hK.1 hP hD hS 5 1 rfl rfl (g_in rfl (by omega) (by omega)) dX9_put_122 (fun H locs hP hD hS => ?_)
                    have hP : va_P D vwCl [(mh, .inr (9, G9 ma mcode mtoday moffs mmany msumW msumA msumR msumWW msumWA msumAA msumWR msumAR mupper mlower mrates mtaped mlaid mat mtk mtkAt mtkNumber mwaits mlisted mdealtMany)), ((ma 3), .inl (E 0, 16, .inl (upd mf3 (p0 : Int32).toNatClampNeg p1))), ((ma 4), .inl (E 0, 16, .inl (upd mf4 (p0 : Int32).toNatClampNeg p2))), ((ma 5), .inl (E 1, 6400, .inl (upd mf5_73 (z_37 : Int32).toNatClampNeg (vp_nar .boolean 0)))), ((ma 8), .inl (E 1, 6400, .inl (upd mf8_73 (z_39 : Int32).toNatClampNeg (vp_nar .boolean 0)))), ((ma 9), .inl (E 1, 6400, .inl (upd mf9_73 (z_41 : Int32).toNatClampNeg (vp_nar .boolean 0)))), ((ma 10), .inl (E 0, 6400, .inl mf10_73))] H := hP
                    have hD := toW hP hD rfl
                    refine lv_aload_n hx hb dX9_put_123 rfl (lv_at hl 1 rfl) ?_
                    refine va_get (D := D) (ci := 9) (v := .ref (ma 10)) (C := RX9) (T := TX9) (N := 68) hx hb htb iX9 hown hK.1 hP 0 rfl rfl 10 (by decide) (htb _ k_968) (fun _ h9 => h9) rfl dX9_put_124 ?_
                    refine lv_sipush (v := 400) hx hb dX9_put_127 (by decide) ?_
                    refine lv_iload_n hx hb dX9_put_130 rfl (lv_at hl 2 rfl) ?_
                    refine lv_imul hx hb dX9_put_131 ?_
                    refine lv_topi (fun z_42 ez_42 => ?_)
                    have jz_42 : z_42.toInt = 400 * p0.toInt := by rw [ez_42]; exact g_mul t_400 rfl (by omega) (by omega)
                    refine lv_iload hx hb dX9_put_132 (lv_at hl 0 rfl) ?_
                    refine lv_iadd hx hb dX9_put_134 ?_
                    refine lv_topi (fun z_43 ez_43 => ?_)
                    have jz_43 : z_43.toInt = z_42.toInt + L4_73.toInt := by rw [ez_43]; exact g_add rfl rfl (by omega) (by omega)
                    refine lv_iconst (v := (-1)) hx hb dX9_put_135 (by decide) ?_
                    refine va_iast hx hb hK.1 hP hD hS 6 0 rfl rfl (g_in rfl (by omega) (by omega)) dX9_put_136 (fun H locs hP hD hS => ?_)
                    have hP : va_P D vwCl [(mh, .inr (9, G9 ma mcode mtoday moffs mmany msumW msumA msumR msumWW msumWA msumAA msumWR msumAR mupper mlower mrates mtaped mlaid mat mtk mtkAt mtkNumber mwaits mlisted mdealtMany)), ((ma 3), .inl (E 0, 16, .inl (upd mf3 (p0 : Int32).toNatClampNeg p1))), ((ma 4), .inl (E 0, 16, .inl (upd mf4 (p0 : Int32).toNatClampNeg p2))), ((ma 5), .inl (E 1, 6400, .inl (upd mf5_73 (z_37 : Int32).toNatClampNeg (vp_nar .boolean 0)))), ((ma 8), .inl (E 1, 6400, .inl (upd mf8_73 (z_39 : Int32).toNatClampNeg (vp_nar .boolean 0)))), ((ma 9), .inl (E 1, 6400, .inl (upd mf9_73 (z_41 : Int32).toNatClampNeg (vp_nar .boolean 0)))), ((ma 10), .inl (E 0, 6400, .inl (upd mf10_73 (z_43 : Int32).toNatClampNeg (-1))))] H := hP
                    have hD := toW hP hD rfl
                    obtain ⟨z_44, ez_44⟩ : ∃ y : Int32, y = L4_73 + 1 := ⟨_, rfl⟩
                    have jz_44 : z_44.toInt = L4_73.toInt + 1 := by rw [ez_44]; exact g_add rfl t_1 (by omega) (by omega)
                    refine lv_iinc (v := z_44) (lv' := [(4, .int z_44), (0, .ref mh), (1, .int p0), (2, .int p1), (3, .int p2)]) hx hb dX9_put_137 hl (k := 0) rfl (by rw [ez_44]; rfl) (by decide) rfl (fun ls hl => ?_)
                    refine lv_goto (tgt := 73) hx hb dX9_put_140 (by decide) ?_
                    exact ih_33 z_44 (upd mf5_73 (z_37 : Int32).toNatClampNeg (vp_nar .boolean 0)) (upd mf8_73 (z_39 : Int32).toNatClampNeg (vp_nar .boolean 0)) (upd mf9_73 (z_41 : Int32).toNatClampNeg (vp_nar .boolean 0)) (upd mf10_73 (z_43 : Int32).toNatClampNeg (-1)) _ _ _ (by (try dsimp only); omega) (by (try dsimp only); omega) (FIL_s v1_73 (i := z_37) (by omega) (by omega) (by omega) (by omega) (by decide)) (FIL_s v2_73 (i := z_39) (by omega) (by omega) (by omega) (by omega) (by decide)) (FIL_s v3_73 (i := z_41) (by omega) (by omega) (by omega) (by omega) (by decide)) (FIL_s v4_73 (i := z_43) (by omega) (by omega) (by omega) (by omega) (by decide)) hP hD hS (lv_sub hl [0, 1, 2, 3, 4] rfl)
              exact loop_32 401 0 mf5 mf8 mf9 mf10 _ _ _ (by have h0 := t_0; (try dsimp only); omega) (by have h0 := t_0; (try dsimp only); omega) (FIL_0 (by have h0 := t_0; omega)) (FIL_0 (by have h0 := t_0; omega)) (FIL_0 (by have h0 := t_0; omega)) (FIL_0 (by have h0 := t_0; omega)) hP hD hS (lv_sub hl [0, 1, 2, 3, 4] rfl)
            ·
              have ic_31 : z_30.toInt ≠ -5 := mt (g_eq rfl t_m5).mpr c_31
              clear c_31
              refine lv_bipush (v := (-4)) hx hb dX9_put_53 (by decide) ?_
              have hP9 := hP.sub (ws' := [(mh, .inr (9, G9 ma mcode mtoday moffs mmany msumW msumA msumR msumWW msumWA msumAA msumWR msumAR mupper mlower mrates mtaped mlaid mat mtk mtkAt mtkNumber mwaits mlisted mdealtMany)), ((ma 3), .inl (E 0, 16, .inl mf3)), ((ma 4), .inl (E 0, 16, .inl mf4)), ((ma 5), .inl (E 1, 6400, .inl mf5)), ((ma 8), .inl (E 1, 6400, .inl mf8)), ((ma 9), .inl (E 1, 6400, .inl mf9)), ((ma 10), .inl (E 0, 6400, .inl mf10))]) [0, 1, 2, 3, 4, 5, 6] rfl
              have hD9 := hD.sub (ws' := [(mh, .inr (9, G9 ma mcode mtoday moffs mmany msumW msumA msumR msumWW msumWA msumAA msumWR msumAR mupper mlower mrates mtaped mlaid mat mtk mtkAt mtkNumber mwaits mlisted mdealtMany)), ((ma 3), .inl (E 0, 16, .inl mf3)), ((ma 4), .inl (E 0, 16, .inl mf4)), ((ma 5), .inl (E 1, 6400, .inl mf5)), ((ma 8), .inl (E 1, 6400, .inl mf8)), ((ma 9), .inl (E 1, 6400, .inl mf9)), ((ma 10), .inl (E 0, 6400, .inl mf10))]) [0, 1, 2, 3, 4, 5, 6] (by decide) rfl
              exact W.iret (v := (-4)) hx hb hr (fun t ht hW => ⟨⟨(-4), (mf10, mf3, mf4, mf5, mf8, mf9), rfl, (by have hl0 := t_m4; (try dsimp only); first | exact Or.inl ⟨by omega, by omega, by omega, by omega, rfl, rfl, FIL_c v1_73 (by omega), FIL_c v2_73 (by omega), FIL_c v3_73 (by omega), FIL_c v4_73 (by omega)⟩ | exact Or.inr (Or.inl ⟨by omega, by omega, rfl, rfl, rfl, rfl, rfl, rfl⟩) | exact Or.inr (Or.inr ⟨by omega, by omega, by omega, by omega, rfl, rfl, rfl, rfl, rfl, rfl⟩)), by rw [ht]; exact hP9, hD9⟩, hS.F ht⟩) hS.2.2 dX9_put_55
          ·
            try simp only [t_m50, t_50] at hw_27
            refine W_top (y := .int 0) (by rw [hr_26]) ?_
            refine lv_if_ne (tgt := 42) hx hb dX9_put_37 (by decide) (fun c_45 => absurd (by decide) c_45) (fun c_45 => ?_)
            refine lv_iconst (v := (-1)) hx hb dX9_put_40 (by decide) ?_
            have hP9 := hP.sub (ws' := [(mh, .inr (9, G9 ma mcode mtoday moffs mmany msumW msumA msumR msumWW msumWA msumAA msumWR msumAR mupper mlower mrates mtaped mlaid mat mtk mtkAt mtkNumber mwaits mlisted mdealtMany)), ((ma 3), .inl (E 0, 16, .inl mf3)), ((ma 4), .inl (E 0, 16, .inl mf4)), ((ma 5), .inl (E 1, 6400, .inl mf5)), ((ma 8), .inl (E 1, 6400, .inl mf8)), ((ma 9), .inl (E 1, 6400, .inl mf9)), ((ma 10), .inl (E 0, 6400, .inl mf10))]) [0, 1, 2, 3, 4, 5, 6] rfl
            have hD9 := hD.sub (ws' := [(mh, .inr (9, G9 ma mcode mtoday moffs mmany msumW msumA msumR msumWW msumWA msumAA msumWR msumAR mupper mlower mrates mtaped mlaid mat mtk mtkAt mtkNumber mwaits mlisted mdealtMany)), ((ma 3), .inl (E 0, 16, .inl mf3)), ((ma 4), .inl (E 0, 16, .inl mf4)), ((ma 5), .inl (E 1, 6400, .inl mf5)), ((ma 8), .inl (E 1, 6400, .inl mf8)), ((ma 9), .inl (E 1, 6400, .inl mf9)), ((ma 10), .inl (E 0, 6400, .inl mf10))]) [0, 1, 2, 3, 4, 5, 6] (by decide) rfl
            exact W.iret (v := (-1)) hx hb hr (fun t ht hW => ⟨⟨(-1), (mf10, mf3, mf4, mf5, mf8, mf9), rfl, (by have hl0 := t_m1; (try dsimp only); first | exact Or.inl ⟨by omega, by omega, by omega, by omega, rfl, rfl, FIL_c v1_73 (by omega), FIL_c v2_73 (by omega), FIL_c v3_73 (by omega), FIL_c v4_73 (by omega)⟩ | exact Or.inr (Or.inl ⟨by omega, by omega, rfl, rfl, rfl, rfl, rfl, rfl⟩) | exact Or.inr (Or.inr ⟨by omega, by omega, by omega, by omega, rfl, rfl, rfl, rfl, rfl, rfl⟩)), by rw [ht]; exact hP9, hD9⟩, hS.F ht⟩) hS.2.2 dX9_put_41
      ·
        have ic_9 : p1.toInt = 0 := (g_eq rfl t_0).mp c_9
        clear c_9
        refine lv_iload_n hx hb dX9_put_20 rfl (lv_at hl 3 rfl) ?_
        refine lv_if_ne (tgt := 40) hx hb dX9_put_21 (by decide) (fun c_46 => ?_) (fun c_46 => ?_)
        ·
          have ic_46 : p2.toInt ≠ 0 := mt (g_eq rfl t_0).mpr c_46
          clear c_46
          refine lv_iconst (v := (-1)) hx hb dX9_put_40 (by decide) ?_
          have hP9 := hP.sub (ws' := [(mh, .inr (9, G9 ma mcode mtoday moffs mmany msumW msumA msumR msumWW msumWA msumAA msumWR msumAR mupper mlower mrates mtaped mlaid mat mtk mtkAt mtkNumber mwaits mlisted mdealtMany)), ((ma 3), .inl (E 0, 16, .inl mf3)), ((ma 4), .inl (E 0, 16, .inl mf4)), ((ma 5), .inl (E 1, 6400, .inl mf5)), ((ma 8), .inl (E 1, 6400, .inl mf8)), ((ma 9), .inl (E 1, 6400, .inl mf9)), ((ma 10), .inl (E 0, 6400, .inl mf10))]) [0, 1, 2, 3, 4, 5, 6] rfl
          have hD9 := hD.sub (ws' := [(mh, .inr (9, G9 ma mcode mtoday moffs mmany msumW msumA msumR msumWW msumWA msumAA msumWR msumAR mupper mlower mrates mtaped mlaid mat mtk mtkAt mtkNumber mwaits mlisted mdealtMany)), ((ma 3), .inl (E 0, 16, .inl mf3)), ((ma 4), .inl (E 0, 16, .inl mf4)), ((ma 5), .inl (E 1, 6400, .inl mf5)), ((ma 8), .inl (E 1, 6400, .inl mf8)), ((ma 9), .inl (E 1, 6400, .inl mf9)), ((ma 10), .inl (E 0, 6400, .inl mf10))]) [0, 1, 2, 3, 4, 5, 6] (by decide) rfl
          exact W.iret (v := (-1)) hx hb hr (fun t ht hW => ⟨⟨(-1), (mf10, mf3, mf4, mf5, mf8, mf9), rfl, (by have hl0 := t_m1; (try dsimp only); first | exact Or.inl ⟨by omega, by omega, by omega, by omega, rfl, rfl, FIL_c v1_73 (by omega), FIL_c v2_73 (by omega), FIL_c v3_73 (by omega), FIL_c v4_73 (by omega)⟩ | exact Or.inr (Or.inl ⟨by omega, by omega, rfl, rfl, rfl, rfl, rfl, rfl⟩) | exact Or.inr (Or.inr ⟨by omega, by omega, by omega, by omega, rfl, rfl, rfl, rfl, rfl, rfl⟩)), by rw [ht]; exact hP9, hD9⟩, hS.F ht⟩) hS.2.2 dX9_put_41
        ·
          have ic_46 : p2.toInt = 0 := (g_eq rfl t_0).mp c_46
          clear c_46
          refine lv_iload_n hx hb dX9_put_24 rfl (lv_at hl 2 rfl) ?_
          refine lv_iconst (v := 1) hx hb dX9_put_25 (by decide) ?_
          refine lv_icmp_ne (tgt := 42) hx hb dX9_put_26 (by decide) (fun c_47 => ?_) (fun c_47 => absurd c_47 (by rw [g_eq rfl t_1]; omega))
          refine lv_aload_n hx hb dX9_put_42 rfl (lv_at hl 0 rfl) ?_
          refine va_get (D := D) (ci := 9) (v := .ref (ma 3)) (C := RX9) (T := TX9) (N := 68) hx hb htb iX9 hown hK.1 hP 0 rfl rfl 3 (by decide) (htb _ k_961) (fun _ h9 => h9) rfl dX9_put_43 ?_
          refine lv_iload_n hx hb dX9_put_46 rfl (lv_at hl 1 rfl) ?_
          refine va_iald hx hb hK.1 hP 1 0 rfl rfl (g_in rfl (by omega) (by omega)) dX9_put_47 ?_
          refine lv_topi (fun z_48 ez_48 => ?_)
          have kz_48 := congrArg Int32.toInt ez_48
          refine lv_bipush (v := (-5)) hx hb dX9_put_48 (by decide) ?_
          refine lv_icmp_eq (tgt := 56) hx hb dX9_put_50 (by decide) (fun c_49 => ?_) (fun c_49 => ?_)
          ·
            have ic_49 : z_48.toInt = -5 := (g_eq rfl t_m5).mp c_49
            clear c_49
            refine lv_aload_n hx hb dX9_put_56 rfl (lv_at hl 0 rfl) ?_
            refine va_get (D := D) (ci := 9) (v := .ref (ma 3)) (C := RX9) (T := TX9) (N := 68) hx hb htb iX9 hown hK.1 hP 0 rfl rfl 3 (by decide) (htb _ k_961) (fun _ h9 => h9) rfl dX9_put_57 ?_
            refine lv_iload_n hx hb dX9_put_60 rfl (lv_at hl 1 rfl) ?_
            refine lv_iload_n hx hb dX9_put_61 rfl (lv_at hl 2 rfl) ?_
            refine va_iast hx hb hK.1 hP hD hS 1 0 rfl rfl (g_in rfl (by omega) (by omega)) dX9_put_62 (fun H locs hP hD hS => ?_)
            have hP : va_P D vwCl [(mh, .inr (9, G9 ma mcode mtoday moffs mmany msumW msumA msumR msumWW msumWA msumAA msumWR msumAR mupper mlower mrates mtaped mlaid mat mtk mtkAt mtkNumber mwaits mlisted mdealtMany)), ((ma 3), .inl (E 0, 16, .inl (upd mf3 (p0 : Int32).toNatClampNeg p1))), ((ma 4), .inl (E 0, 16, .inl mf4)), ((ma 5), .inl (E 1, 6400, .inl mf5)), ((ma 8), .inl (E 1, 6400, .inl mf8)), ((ma 9), .inl (E 1, 6400, .inl mf9)), ((ma 10), .inl (E 0, 6400, .inl mf10))] H := hP
            have hD := toW hP hD rfl
            refine lv_aload_n hx hb dX9_put_63 rfl (lv_at hl 0 rfl) ?_
            refine va_get (D := D) (ci := 9) (v := .ref (ma 4)) (C := RX9) (T := TX9) (N := 68) hx hb htb iX9 hown hK.1 hP 0 rfl rfl 4 (by decide) (htb _ k_962) (fun _ h9 => h9) rfl dX9_put_64 ?_
            refine lv_iload_n hx hb dX9_put_67 rfl (lv_at hl 1 rfl) ?_
            refine lv_iload_n hx hb dX9_put_68 rfl (lv_at hl 3 rfl) ?_
            refine va_iast hx hb hK.1 hP hD hS 2 0 rfl rfl (g_in rfl (by omega) (by omega)) dX9_put_69 (fun H locs hP hD hS => ?_)
            have hP : va_P D vwCl [(mh, .inr (9, G9 ma mcode mtoday moffs mmany msumW msumA msumR msumWW msumWA msumAA msumWR msumAR mupper mlower mrates mtaped mlaid mat mtk mtkAt mtkNumber mwaits mlisted mdealtMany)), ((ma 3), .inl (E 0, 16, .inl (upd mf3 (p0 : Int32).toNatClampNeg p1))), ((ma 4), .inl (E 0, 16, .inl (upd mf4 (p0 : Int32).toNatClampNeg p2))), ((ma 5), .inl (E 1, 6400, .inl mf5)), ((ma 8), .inl (E 1, 6400, .inl mf8)), ((ma 9), .inl (E 1, 6400, .inl mf9)), ((ma 10), .inl (E 0, 6400, .inl mf10))] H := hP
            have hD := toW hP hD rfl
            refine lv_iconst (v := 0) hx hb dX9_put_70 (by decide) ?_
            refine lv_istore (lv' := [(4, .int 0), (0, .ref mh), (1, .int p0), (2, .int p1), (3, .int p2)]) hx hb dX9_put_71 hl (by decide) rfl (fun ls hl => ?_)
            have loop_50 : ∀ (N_52 : Nat) (L4_73 : Int32) (mf5_73 : Nat → Int32) (mf8_73 : Nat → Int32) (mf9_73 : Nat → Int32) (mf10_73 : Nat → Int32) (H : Heap) (locs : List Loc) (ls : Array Slot), 400 - L4_73.toInt < (N_52 : Int) → (0 ≤ L4_73.toInt ∧ L4_73.toInt ≤ 400) → (FIL mf5 mf5_73 (400 * p0.toInt) (400 * p0.toInt + L4_73.toInt) 0) → (FIL mf8 mf8_73 (400 * p0.toInt) (400 * p0.toInt + L4_73.toInt) 0) → (FIL mf9 mf9_73 (400 * p0.toInt) (400 * p0.toInt + L4_73.toInt) 0) → (FIL mf10 mf10_73 (400 * p0.toInt) (400 * p0.toInt + L4_73.toInt) (-1)) → va_P D vwCl [(mh, .inr (9, G9 ma mcode mtoday moffs mmany msumW msumA msumR msumWW msumWA msumAA msumWR msumAR mupper mlower mrates mtaped mlaid mat mtk mtkAt mtkNumber mwaits mlisted mdealtMany)), ((ma 3), .inl (E 0, 16, .inl (upd mf3 (p0 : Int32).toNatClampNeg p1))), ((ma 4), .inl (E 0, 16, .inl (upd mf4 (p0 : Int32).toNatClampNeg p2))), ((ma 5), .inl (E 1, 6400, .inl mf5_73)), ((ma 8), .inl (E 1, 6400, .inl mf8_73)), ((ma 9), .inl (E 1, 6400, .inl mf9_73)), ((ma 10), .inl (E 0, 6400, .inl mf10_73))] H → va_D A [(mh, .inr (9, G9 ma mcode mtoday moffs mmany msumW msumA msumR msumWW msumWA msumAA msumWR msumAR mupper mlower mrates mtaped mlaid mat mtk mtkAt mtkNumber mwaits mlisted mdealtMany)), ((ma 3), .inl (E 0, 16, .inl (upd mf3 (p0 : Int32).toNatClampNeg p1))), ((ma 4), .inl (E 0, 16, .inl (upd mf4 (p0 : Int32).toNatClampNeg p2))), ((ma 5), .inl (E 1, 6400, .inl mf5_73)), ((ma 8), .inl (E 1, 6400, .inl mf8_73)), ((ma 9), .inl (E 1, 6400, .inl mf9_73)), ((ma 10), .inl (E 0, 6400, .inl mf10_73))] → va_S A s.heap H locs → lv_has ls 5 [(4, .int L4_73), (0, .ref mh), (1, .int p0), (2, .int p1), (3, .int p2)] → W p l e (headSpec (wl yX9_put cX9_put 5 (some .int)) (RM 2 0 0)).room s m [Value.ref mh, .int p0, .int p1, .int p2].toArray below meth c H locs 0 0 (MQ below (va_Qi (fun (r : Int32) (u : (Nat → Int32) × (Nat → Int32) × (Nat → Int32) × (Nat → Int32) × (Nat → Int32) × (Nat → Int32)) => ((r.toInt = 1 ∧ (0 ≤ p0.toInt ∧ p0.toInt ≤ 15) ∧ ((p1.toInt = 0 ∧ p2.toInt = 0) ∨ (p1.toInt = 1 ∧ -50 ≤ p2.toInt ∧ p2.toInt ≤ 50) ∨ p1.toInt = 2) ∧ (mf3 (p0).toNatClampNeg).toInt = -5 ∧ u.2.1 = upd mf3 (p0).toNatClampNeg p1 ∧ u.2.2.1 = upd mf4 (p0).toNatClampNeg p2 ∧ FIL mf5 u.2.2.2.1 (400 * p0.toInt) (400 * p0.toInt + 400) 0 ∧ FIL mf8 u.2.2.2.2.1 (400 * p0.toInt) (400 * p0.toInt + 400) 0 ∧ FIL mf9 u.2.2.2.2.2 (400 * p0.toInt) (400 * p0.toInt + 400) 0 ∧ FIL mf10 u.1 (400 * p0.toInt) (400 * p0.toInt + 400) (-1)) ∨ (r.toInt = -1 ∧ ¬ ((0 ≤ p0.toInt ∧ p0.toInt ≤ 15) ∧ ((p1.toInt = 0 ∧ p2.toInt = 0) ∨ (p1.toInt = 1 ∧ -50 ≤ p2.toInt ∧ p2.toInt ≤ 50) ∨ p1.toInt = 2)) ∧ u.2.1 = mf3 ∧ u.2.2.1 = mf4 ∧ u.2.2.2.1 = mf5 ∧ u.2.2.2.2.1 = mf8 ∧ u.2.2.2.2.2 = mf9 ∧ u.1 = mf10) ∨ (r.toInt = -4 ∧ (0 ≤ p0.toInt ∧ p0.toInt ≤ 15) ∧ ((p1.toInt = 0 ∧ p2.toInt = 0) ∨ (p1.toInt = 1 ∧ -50 ≤ p2.toInt ∧ p2.toInt ≤ 50) ∨ p1.toInt = 2) ∧ (mf3 (p0).toNatClampNeg).toInt ≠ -5 ∧ u.2.1 = mf3 ∧ u.2.2.1 = mf4 ∧ u.2.2.2.1 = mf5 ∧ u.2.2.2.2.1 = mf8 ∧ u.2.2.2.2.2 = mf9 ∧ u.1 = mf10))) (mu_B D A (fun (u : (Nat → Int32) × (Nat → Int32) × (Nat → Int32) × (Nat → Int32) × (Nat → Int32) × (Nat → Int32)) => [(mh, .inr (9, G9 ma mcode mtoday moffs mmany msumW msumA msumR msumWW msumWA msumAA msumWR msumAR mupper mlower mrates mtaped mlaid mat mtk mtkAt mtkNumber mwaits mlisted mdealtMany)), ((ma 3), .inl (E 0, 16, .inl u.2.1)), ((ma 4), .inl (E 0, 16, .inl u.2.2.1)), ((ma 5), .inl (E 1, 6400, .inl u.2.2.2.1)), ((ma 8), .inl (E 1, 6400, .inl u.2.2.2.2.1)), ((ma 9), .inl (E 1, 6400, .inl u.2.2.2.2.2)), ((ma 10), .inl (E 0, 6400, .inl u.1))])) A) [Value.ref mh, .int p0, .int p1, .int p2].toArray s 0 0 A) (F0 m 73 ls []) := by
              intro N_52
              induction N_52 with
              | zero => intro L4_73 mf5_73 mf8_73 mf9_73 mf10_73 H locs ls hm v0_73 v1_73 v2_73 v3_73 v4_73 _ _ _ _; exfalso; omega
              | succ N_52 ih_51 =>
                intro L4_73 mf5_73 mf8_73 mf9_73 mf10_73 H locs ls hm v0_73 v1_73 v2_73 v3_73 v4_73 hP hD hS hl
                have lo_L4_73 := i_lo L4_73; have hi_L4_73 := i_hi L4_73
                refine lv_iload hx hb dX9_put_73 (lv_at hl 0 rfl) ?_
                refine lv_sipush (v := 400) hx hb dX9_put_75 (by decide) ?_
                refine lv_icmp_ge (tgt := 143) hx hb dX9_put_78 (by decide) (fun c_53 => ?_) (fun c_53 => ?_)
                ·
                  have ic_53 : 400 ≤ L4_73.toInt := by first | exact (g_le t_400 rfl).mp c_53 | (have h := mt (g_lt rfl t_400).mpr c_53; omega)
                  clear c_53
                  refine lv_iconst (v := 1) hx hb dX9_put_143 (by decide) ?_
                  have hP9 := hP.sub (ws' := [(mh, .inr (9, G9 ma mcode mtoday moffs mmany msumW msumA msumR msumWW msumWA msumAA msumWR msumAR mupper mlower mrates mtaped mlaid mat mtk mtkAt mtkNumber mwaits mlisted mdealtMany)), ((ma 3), .inl (E 0, 16, .inl (upd mf3 (p0 : Int32).toNatClampNeg p1))), ((ma 4), .inl (E 0, 16, .inl (upd mf4 (p0 : Int32).toNatClampNeg p2))), ((ma 5), .inl (E 1, 6400, .inl mf5_73)), ((ma 8), .inl (E 1, 6400, .inl mf8_73)), ((ma 9), .inl (E 1, 6400, .inl mf9_73)), ((ma 10), .inl (E 0, 6400, .inl mf10_73))]) [0, 1, 2, 3, 4, 5, 6] rfl
                  have hD9 := hD.sub (ws' := [(mh, .inr (9, G9 ma mcode mtoday moffs mmany msumW msumA msumR msumWW msumWA msumAA msumWR msumAR mupper mlower mrates mtaped mlaid mat mtk mtkAt mtkNumber mwaits mlisted mdealtMany)), ((ma 3), .inl (E 0, 16, .inl (upd mf3 (p0 : Int32).toNatClampNeg p1))), ((ma 4), .inl (E 0, 16, .inl (upd mf4 (p0 : Int32).toNatClampNeg p2))), ((ma 5), .inl (E 1, 6400, .inl mf5_73)), ((ma 8), .inl (E 1, 6400, .inl mf8_73)), ((ma 9), .inl (E 1, 6400, .inl mf9_73)), ((ma 10), .inl (E 0, 6400, .inl mf10_73))]) [0, 1, 2, 3, 4, 5, 6] (by decide) rfl
                  exact W.iret (v := 1) hx hb hr (fun t ht hW => ⟨⟨1, (mf10_73, (upd mf3 (p0 : Int32).toNatClampNeg p1), (upd mf4 (p0 : Int32).toNatClampNeg p2), mf5_73, mf8_73, mf9_73), rfl, (by have hl0 := t_1; (try dsimp only); first | exact Or.inl ⟨by omega, by omega, by omega, by omega, rfl, rfl, FIL_c v1_73 (by omega), FIL_c v2_73 (by omega), FIL_c v3_73 (by omega), FIL_c v4_73 (by omega)⟩ | exact Or.inr (Or.inl ⟨by omega, by omega, rfl, rfl, rfl, rfl, rfl, rfl⟩) | exact Or.inr (Or.inr ⟨by omega, by omega, by omega, by omega, rfl, rfl, rfl, rfl, rfl, rfl⟩)), by rw [ht]; exact hP9, hD9⟩, hS.F ht⟩) hS.2.2 dX9_put_144
                ·
                  have ic_53 : L4_73.toInt < 400 := by first | exact (g_lt rfl t_400).mp c_53 | (have h := mt (g_le t_400 rfl).mpr c_53; omega)
                  clear c_53
                  refine lv_aload_n hx hb dX9_put_81 rfl (lv_at hl 1 rfl) ?_
                  refine va_get (D := D) (ci := 9) (v := .ref (ma 5)) (C := RX9) (T := TX9) (N := 68) hx hb htb iX9 hown hK.1 hP 0 rfl rfl 5 (by decide) (htb _ k_963) (fun _ h9 => h9) rfl dX9_put_82 ?_
                  refine lv_sipush (v := 400) hx hb dX9_put_85 (by decide) ?_
                  refine lv_iload_n hx hb dX9_put_88 rfl (lv_at hl 2 rfl) ?_
                  refine lv_imul hx hb dX9_put_89 ?_
                  refine lv_topi (fun z_54 ez_54 => ?_)
                  have jz_54 : z_54.toInt = 400 * p0.toInt := by rw [ez_54]; exact g_mul t_400 rfl (by omega) (by omega)
                  refine lv_iload hx hb dX9_put_90 (lv_at hl 0 rfl) ?_
                  refine lv_iadd hx hb dX9_put_92 ?_
                  refine lv_topi (fun z_55 ez_55 => ?_)
                  have jz_55 : z_55.toInt = z_54.toInt + L4_73.toInt := by rw [ez_55]; exact g_add rfl rfl (by omega) (by omega)
                  refine lv_iconst (v := 0) hx hb dX9_put_93 (by decide) ?_
                  refine va_zast hx hb hK.1 hP hD hS 3 1 rfl rfl (g_in rfl (by omega) (by omega)) dX9_put_94 (fun H locs hP hD hS => ?_)
                  have hP : va_P D vwCl [(mh, .inr (9, G9 ma mcode mtoday moffs mmany msumW msumA msumR msumWW msumWA msumAA msumWR msumAR mupper mlower mrates mtaped mlaid mat mtk mtkAt mtkNumber mwaits mlisted mdealtMany)), ((ma 3), .inl (E 0, 16, .inl (upd mf3 (p0 : Int32).toNatClampNeg p1))), ((ma 4), .inl (E 0, 16, .inl (upd mf4 (p0 : Int32).toNatClampNeg p2))), ((ma 5), .inl (E 1, 6400, .inl (upd mf5_73 (z_55 : Int32).toNatClampNeg (vp_nar .boolean 0)))), ((ma 8), .inl (E 1, 6400, .inl mf8_73)), ((ma 9), .inl (E 1, 6400, .inl mf9_73)), ((ma 10), .inl (E 0, 6400, .inl mf10_73))] H := hP
                  have hD := toW hP hD rfl
                  refine lv_aload_n hx hb dX9_put_95 rfl (lv_at hl 1 rfl) ?_
                  refine va_get (D := D) (ci := 9) (v := .ref (ma 8)) (C := RX9) (T := TX9) (N := 68) hx hb htb iX9 hown hK.1 hP 0 rfl rfl 8 (by decide) (htb _ k_966) (fun _ h9 => h9) rfl dX9_put_96 ?_
                  refine lv_sipush (v := 400) hx hb dX9_put_99 (by decide) ?_
                  refine lv_iload_n hx hb dX9_put_102 rfl (lv_at hl 2 rfl) ?_
                  refine lv_imul hx hb dX9_put_103 ?_
                  refine lv_topi (fun z_56 ez_56 => ?_)
                  have jz_56 : z_56.toInt = 400 * p0.toInt := by rw [ez_56]; exact g_mul t_400 rfl (by omega) (by omega)
                  refine lv_iload hx hb dX9_put_104 (lv_at hl 0 rfl) ?_
                  refine lv_iadd hx hb dX9_put_106 ?_
                  refine lv_topi (fun z_57 ez_57 => ?_)
                  have jz_57 : z_57.toInt = z_56.toInt + L4_73.toInt := by rw [ez_57]; exact g_add rfl rfl (by omega) (by omega)
                  refine lv_iconst (v := 0) hx hb dX9_put_107 (by decide) ?_
                  refine va_zast hx hb hK.1 hP hD hS 4 1 rfl rfl (g_in rfl (by omega) (by omega)) dX9_put_108 (fun H locs hP hD hS => ?_)
                  have hP : va_P D vwCl [(mh, .inr (9, G9 ma mcode mtoday moffs mmany msumW msumA msumR msumWW msumWA msumAA msumWR msumAR mupper mlower mrates mtaped mlaid mat mtk mtkAt mtkNumber mwaits mlisted mdealtMany)), ((ma 3), .inl (E 0, 16, .inl (upd mf3 (p0 : Int32).toNatClampNeg p1))), ((ma 4), .inl (E 0, 16, .inl (upd mf4 (p0 : Int32).toNatClampNeg p2))), ((ma 5), .inl (E 1, 6400, .inl (upd mf5_73 (z_55 : Int32).toNatClampNeg (vp_nar .boolean 0)))), ((ma 8), .inl (E 1, 6400, .inl (upd mf8_73 (z_57 : Int32).toNatClampNeg (vp_nar .boolean 0)))), ((ma 9), .inl (E 1, 6400, .inl mf9_73)), ((ma 10), .inl (E 0, 6400, .inl mf10_73))] H := hP
                  have hD := toW hP hD rfl
                  refine lv_aload_n hx hb dX9_put_109 rfl (lv_at hl 1 rfl) ?_
                  refine va_get (D := D) (ci := 9) (v := .ref (ma 9)) (C := RX9) (T := TX9) (N := 68) hx hb htb iX9 hown hK.1 hP 0 rfl rfl 9 (by decide) (htb _ k_967) (fun _ h9 => h9) rfl dX9_put_110 ?_
                  refine lv_sipush (v := 400) hx hb dX9_put_113 (by decide) ?_
                  refine lv_iload_n hx hb dX9_put_116 rfl (lv_at hl 2 rfl) ?_
                  refine lv_imul hx hb dX9_put_117 ?_
                  refine lv_topi (fun z_58 ez_58 => ?_)
                  have jz_58 : z_58.toInt = 400 * p0.toInt := by rw [ez_58]; exact g_mul t_400 rfl (by omega) (by omega)
                  refine lv_iload hx hb dX9_put_118 (lv_at hl 0 rfl) ?_
                  refine lv_iadd hx hb dX9_put_120 ?_
                  refine lv_topi (fun z_59 ez_59 => ?_)
                  have jz_59 : z_59.toInt = z_58.toInt + L4_73.toInt := by rw [ez_59]; exact g_add rfl rfl (by omega) (by omega)
                  refine lv_iconst (v := 0) hx hb dX9_put_121 (by decide) ?_
                  refine va_zast hx hb hK.1 hP hD hS 5 1 rfl rfl (g_in rfl (by omega) (by omega)) dX9_put_122 (fun H locs hP hD hS => ?_)
                  have hP : va_P D vwCl [(mh, .inr (9, G9 ma mcode mtoday moffs mmany msumW msumA msumR msumWW msumWA msumAA msumWR msumAR mupper mlower mrates mtaped mlaid mat mtk mtkAt mtkNumber mwaits mlisted mdealtMany)), ((ma 3), .inl (E 0, 16, .inl (upd mf3 (p0 : Int32).toNatClampNeg p1))), ((ma 4), .inl (E 0, 16, .inl (upd mf4 (p0 : Int32).toNatClampNeg p2))), ((ma 5), .inl (E 1, 6400, .inl (upd mf5_73 (z_55 : Int32).toNatClampNeg (vp_nar .boolean 0)))), ((ma 8), .inl (E 1, 6400, .inl (upd mf8_73 (z_57 : Int32).toNatClampNeg (vp_nar .boolean 0)))), ((ma 9), .inl (E 1, 6400, .inl (upd mf9_73 (z_59 : Int32).toNatClampNeg (vp_nar .boolean 0)))), ((ma 10), .inl (E 0, 6400, .inl mf10_73))] H := hP
                  have hD := toW hP hD rfl
                  refine lv_aload_n hx hb dX9_put_123 rfl (lv_at hl 1 rfl) ?_
                  refine va_get (D := D) (ci := 9) (v := .ref (ma 10)) (C := RX9) (T := TX9) (N := 68) hx hb htb iX9 hown hK.1 hP 0 rfl rfl 10 (by decide) (htb _ k_968) (fun _ h9 => h9) rfl dX9_put_124 ?_
                  refine lv_sipush (v := 400) hx hb dX9_put_127 (by decide) ?_
                  refine lv_iload_n hx hb dX9_put_130 rfl (lv_at hl 2 rfl) ?_
                  refine lv_imul hx hb dX9_put_131 ?_
                  refine lv_topi (fun z_60 ez_60 => ?_)
                  have jz_60 : z_60.toInt = 400 * p0.toInt := by rw [ez_60]; exact g_mul t_400 rfl (by omega) (by omega)
                  refine lv_iload hx hb dX9_put_132 (lv_at hl 0 rfl) ?_
                  refine lv_iadd hx hb dX9_put_134 ?_
                  refine lv_topi (fun z_61 ez_61 => ?_)
                  have jz_61 : z_61.toInt = z_60.toInt + L4_73.toInt := by rw [ez_61]; exact g_add rfl rfl (by omega) (by omega)
                  refine lv_iconst (v := (-1)) hx hb dX9_put_135 (by decide) ?_
                  refine va_iast hx hb hK.1 hP hD hS 6 0 rfl rfl (g_in rfl (by omega) (by omega)) dX9_put_136 (fun H locs hP hD hS => ?_)
                  have hP : va_P D vwCl [(mh, .inr (9, G9 ma mcode mtoday moffs mmany msumW msumA msumR msumWW msumWA msumAA msumWR msumAR mupper mlower mrates mtaped mlaid mat mtk mtkAt mtkNumber mwaits mlisted mdealtMany)), ((ma 3), .inl (E 0, 16, .inl (upd mf3 (p0 : Int32).toNatClampNeg p1))), ((ma 4), .inl (E 0, 16, .inl (upd mf4 (p0 : Int32).toNatClampNeg p2))), ((ma 5), .inl (E 1, 6400, .inl (upd mf5_73 (z_55 : Int32).toNatClampNeg (vp_nar .boolean 0)))), ((ma 8), .inl (E 1, 6400, .inl (upd mf8_73 (z_57 : Int32).toNatClampNeg (vp_nar .boolean 0)))), ((ma 9), .inl (E 1, 6400, .inl (upd mf9_73 (z_59 : Int32).toNatClampNeg (vp_nar .boolean 0)))), ((ma 10), .inl (E 0, 6400, .inl (upd mf10_73 (z_61 : Int32).toNatClampNeg (-1))))] H := hP
                  have hD := toW hP hD rfl
                  obtain ⟨z_62, ez_62⟩ : ∃ y : Int32, y = L4_73 + 1 := ⟨_, rfl⟩
                  have jz_62 : z_62.toInt = L4_73.toInt + 1 := by rw [ez_62]; exact g_add rfl t_1 (by omega) (by omega)
                  refine lv_iinc (v := z_62) (lv' := [(4, .int z_62), (0, .ref mh), (1, .int p0), (2, .int p1), (3, .int p2)]) hx hb dX9_put_137 hl (k := 0) rfl (by rw [ez_62]; rfl) (by decide) rfl (fun ls hl => ?_)
                  refine lv_goto (tgt := 73) hx hb dX9_put_140 (by decide) ?_
                  exact ih_51 z_62 (upd mf5_73 (z_55 : Int32).toNatClampNeg (vp_nar .boolean 0)) (upd mf8_73 (z_57 : Int32).toNatClampNeg (vp_nar .boolean 0)) (upd mf9_73 (z_59 : Int32).toNatClampNeg (vp_nar .boolean 0)) (upd mf10_73 (z_61 : Int32).toNatClampNeg (-1)) _ _ _ (by (try dsimp only); omega) (by (try dsimp only); omega) (FIL_s v1_73 (i := z_55) (by omega) (by omega) (by omega) (by omega) (by decide)) (FIL_s v2_73 (i := z_57) (by omega) (by omega) (by omega) (by omega) (by decide)) (FIL_s v3_73 (i := z_59) (by omega) (by omega) (by omega) (by omega) (by decide)) (FIL_s v4_73 (i := z_61) (by omega) (by omega) (by omega) (by omega) (by decide)) hP hD hS (lv_sub hl [0, 1, 2, 3, 4] rfl)
            exact loop_50 401 0 mf5 mf8 mf9 mf10 _ _ _ (by have h0 := t_0; (try dsimp only); omega) (by have h0 := t_0; (try dsimp only); omega) (FIL_0 (by have h0 := t_0; omega)) (FIL_0 (by have h0 := t_0; omega)) (FIL_0 (by have h0 := t_0; omega)) (FIL_0 (by have h0 := t_0; omega)) hP hD hS (lv_sub hl [0, 1, 2, 3, 4] rfl)
          ·
            have ic_49 : z_48.toInt ≠ -5 := mt (g_eq rfl t_m5).mpr c_49
            clear c_49
            refine lv_bipush (v := (-4)) hx hb dX9_put_53 (by decide) ?_
            have hP9 := hP.sub (ws' := [(mh, .inr (9, G9 ma mcode mtoday moffs mmany msumW msumA msumR msumWW msumWA msumAA msumWR msumAR mupper mlower mrates mtaped mlaid mat mtk mtkAt mtkNumber mwaits mlisted mdealtMany)), ((ma 3), .inl (E 0, 16, .inl mf3)), ((ma 4), .inl (E 0, 16, .inl mf4)), ((ma 5), .inl (E 1, 6400, .inl mf5)), ((ma 8), .inl (E 1, 6400, .inl mf8)), ((ma 9), .inl (E 1, 6400, .inl mf9)), ((ma 10), .inl (E 0, 6400, .inl mf10))]) [0, 1, 2, 3, 4, 5, 6] rfl
            have hD9 := hD.sub (ws' := [(mh, .inr (9, G9 ma mcode mtoday moffs mmany msumW msumA msumR msumWW msumWA msumAA msumWR msumAR mupper mlower mrates mtaped mlaid mat mtk mtkAt mtkNumber mwaits mlisted mdealtMany)), ((ma 3), .inl (E 0, 16, .inl mf3)), ((ma 4), .inl (E 0, 16, .inl mf4)), ((ma 5), .inl (E 1, 6400, .inl mf5)), ((ma 8), .inl (E 1, 6400, .inl mf8)), ((ma 9), .inl (E 1, 6400, .inl mf9)), ((ma 10), .inl (E 0, 6400, .inl mf10))]) [0, 1, 2, 3, 4, 5, 6] (by decide) rfl
            exact W.iret (v := (-4)) hx hb hr (fun t ht hW => ⟨⟨(-4), (mf10, mf3, mf4, mf5, mf8, mf9), rfl, (by have hl0 := t_m4; (try dsimp only); first | exact Or.inl ⟨by omega, by omega, by omega, by omega, rfl, rfl, FIL_c v1_73 (by omega), FIL_c v2_73 (by omega), FIL_c v3_73 (by omega), FIL_c v4_73 (by omega)⟩ | exact Or.inr (Or.inl ⟨by omega, by omega, rfl, rfl, rfl, rfl, rfl, rfl⟩) | exact Or.inr (Or.inr ⟨by omega, by omega, by omega, by omega, rfl, rfl, rfl, rfl, rfl, rfl⟩)), by rw [ht]; exact hP9, hD9⟩, hS.F ht⟩) hS.2.2 dX9_put_55
    ·
      try simp only [t_0, t_2] at hw_6
      refine W_top (y := .int 0) (by rw [hr_5]) ?_
      refine lv_if_eq (tgt := 40) hx hb dX9_put_13 (by decide) (fun c_63 => ?_) (fun c_63 => absurd (by decide) c_63)
      refine lv_iconst (v := (-1)) hx hb dX9_put_40 (by decide) ?_
      have hP9 := hP.sub (ws' := [(mh, .inr (9, G9 ma mcode mtoday moffs mmany msumW msumA msumR msumWW msumWA msumAA msumWR msumAR mupper mlower mrates mtaped mlaid mat mtk mtkAt mtkNumber mwaits mlisted mdealtMany)), ((ma 3), .inl (E 0, 16, .inl mf3)), ((ma 4), .inl (E 0, 16, .inl mf4)), ((ma 5), .inl (E 1, 6400, .inl mf5)), ((ma 8), .inl (E 1, 6400, .inl mf8)), ((ma 9), .inl (E 1, 6400, .inl mf9)), ((ma 10), .inl (E 0, 6400, .inl mf10))]) [0, 1, 2, 3, 4, 5, 6] rfl
      have hD9 := hD.sub (ws' := [(mh, .inr (9, G9 ma mcode mtoday moffs mmany msumW msumA msumR msumWW msumWA msumAA msumWR msumAR mupper mlower mrates mtaped mlaid mat mtk mtkAt mtkNumber mwaits mlisted mdealtMany)), ((ma 3), .inl (E 0, 16, .inl mf3)), ((ma 4), .inl (E 0, 16, .inl mf4)), ((ma 5), .inl (E 1, 6400, .inl mf5)), ((ma 8), .inl (E 1, 6400, .inl mf8)), ((ma 9), .inl (E 1, 6400, .inl mf9)), ((ma 10), .inl (E 0, 6400, .inl mf10))]) [0, 1, 2, 3, 4, 5, 6] (by decide) rfl
      exact W.iret (v := (-1)) hx hb hr (fun t ht hW => ⟨⟨(-1), (mf10, mf3, mf4, mf5, mf8, mf9), rfl, (by have hl0 := t_m1; (try dsimp only); first | exact Or.inl ⟨by omega, by omega, by omega, by omega, rfl, rfl, FIL_c v1_73 (by omega), FIL_c v2_73 (by omega), FIL_c v3_73 (by omega), FIL_c v4_73 (by omega)⟩ | exact Or.inr (Or.inl ⟨by omega, by omega, rfl, rfl, rfl, rfl, rfl, rfl⟩) | exact Or.inr (Or.inr ⟨by omega, by omega, by omega, by omega, rfl, rfl, rfl, rfl, rfl, rfl⟩)), by rw [ht]; exact hP9, hD9⟩, hS.F ht⟩) hS.2.2 dX9_put_41
  ·
    refine W_top (y := .int 0) (by rw [hr_1]) ?_
    refine lv_if_eq (tgt := 40) hx hb dX9_put_4 (by decide) (fun c_64 => ?_) (fun c_64 => absurd (by decide) c_64)
    refine lv_iconst (v := (-1)) hx hb dX9_put_40 (by decide) ?_
    have hP9 := hP.sub (ws' := [(mh, .inr (9, G9 ma mcode mtoday moffs mmany msumW msumA msumR msumWW msumWA msumAA msumWR msumAR mupper mlower mrates mtaped mlaid mat mtk mtkAt mtkNumber mwaits mlisted mdealtMany)), ((ma 3), .inl (E 0, 16, .inl mf3)), ((ma 4), .inl (E 0, 16, .inl mf4)), ((ma 5), .inl (E 1, 6400, .inl mf5)), ((ma 8), .inl (E 1, 6400, .inl mf8)), ((ma 9), .inl (E 1, 6400, .inl mf9)), ((ma 10), .inl (E 0, 6400, .inl mf10))]) [0, 1, 2, 3, 4, 5, 6] rfl
    have hD9 := hD.sub (ws' := [(mh, .inr (9, G9 ma mcode mtoday moffs mmany msumW msumA msumR msumWW msumWA msumAA msumWR msumAR mupper mlower mrates mtaped mlaid mat mtk mtkAt mtkNumber mwaits mlisted mdealtMany)), ((ma 3), .inl (E 0, 16, .inl mf3)), ((ma 4), .inl (E 0, 16, .inl mf4)), ((ma 5), .inl (E 1, 6400, .inl mf5)), ((ma 8), .inl (E 1, 6400, .inl mf8)), ((ma 9), .inl (E 1, 6400, .inl mf9)), ((ma 10), .inl (E 0, 6400, .inl mf10))]) [0, 1, 2, 3, 4, 5, 6] (by decide) rfl
    exact W.iret (v := (-1)) hx hb hr (fun t ht hW => ⟨⟨(-1), (mf10, mf3, mf4, mf5, mf8, mf9), rfl, (by have hl0 := t_m1; (try dsimp only); first | exact Or.inl ⟨by omega, by omega, by omega, by omega, rfl, rfl, FIL_c v1_73 (by omega), FIL_c v2_73 (by omega), FIL_c v3_73 (by omega), FIL_c v4_73 (by omega)⟩ | exact Or.inr (Or.inl ⟨by omega, by omega, rfl, rfl, rfl, rfl, rfl, rfl⟩) | exact Or.inr (Or.inr ⟨by omega, by omega, by omega, by omega, rfl, rfl, rfl, rfl, rfl, rfl⟩)), by rw [ht]; exact hP9, hD9⟩, hS.F ht⟩) hS.2.2 dX9_put_41
set_option maxHeartbeats 4000000 in
set_option maxRecDepth 100000 in
theorem g_X9_take (l : Launch) (D : va_G) (E : Nat → Nat) (mh : Nat) (ma : Nat → Nat) (mcode : Int32) (mtoday : Int32) (moffs : Int32) (mmany : Int64) (msumW : Int64) (msumA : Int64) (msumR : Int64) (msumWW : Int64) (msumWA : Int64) (msumAA : Int64) (msumWR : Int64) (msumAR : Int64) (mupper : Int64) (mlower : Int64) (mrates : Int32) (mtaped : Int32) (mlaid : Int32) (mat : Int32) (mtk : Int32) (mtkAt : Int32) (mtkNumber : Int32) (mwaits : Int32) (mlisted : Int32) (mdealtMany : Int32) (mf3 : Nat → Int32) (mf10 : Nat → Int32) (p0 : Int32) (sz : Nat) (hi_m : (0 ≤ mtoday.toInt ∧ mtoday.toInt ≤ 399) ∧ (0 ≤ moffs.toInt ∧ moffs.toInt ≤ 60) ∧ (0 ≤ mrates.toInt ∧ mrates.toInt ≤ 60) ∧ (0 ≤ mtaped.toInt ∧ mtaped.toInt ≤ 120) ∧ (0 ≤ mlisted.toInt ∧ mlisted.toInt ≤ 9) ∧ (0 ≤ mdealtMany.toInt ∧ mdealtMany.toInt ≤ 9)) : Met l yX9_take (wl yX9_take cX9_take 2 (some .int)) (RM 2 0 0) (mu_P D E [.ref mh, .int p0] [(mh, .inr (9, G9 ma mcode mtoday moffs mmany msumW msumA msumR msumWW msumWA msumAA msumWR msumAR mupper mlower mrates mtaped mlaid mat mtk mtkAt mtkNumber mwaits mlisted mdealtMany)), ((ma 3), .inl (E 0, 16, .inl mf3)), ((ma 10), .inl (E 0, 6400, .inl mf10))] sz) (va_Qi (fun (r : Int32) (u : (Nat → Int32)) => ((r.toInt = 1 ∧ (0 ≤ p0.toInt ∧ p0.toInt ≤ 15) ∧ (mf3 (p0).toNatClampNeg).toInt ≠ -5 ∧ ¬ (((mf3 (p0).toNatClampNeg).toInt = 0 ∨ (mf3 (p0).toNatClampNeg).toInt = 1) ∧ (mf10 (400 * p0 + mtoday).toNatClampNeg).toInt ≠ -1) ∧ u = upd mf3 (p0).toNatClampNeg (-5)) ∨ (r.toInt = -1 ∧ ¬ (0 ≤ p0.toInt ∧ p0.toInt ≤ 15) ∧ u = mf3) ∨ (r.toInt = -2 ∧ (0 ≤ p0.toInt ∧ p0.toInt ≤ 15) ∧ (mf3 (p0).toNatClampNeg).toInt = -5 ∧ u = mf3) ∨ (r.toInt = -4 ∧ (0 ≤ p0.toInt ∧ p0.toInt ≤ 15) ∧ (((mf3 (p0).toNatClampNeg).toInt = 0 ∨ (mf3 (p0).toNatClampNeg).toInt = 1) ∧ (mf10 (400 * p0 + mtoday).toNatClampNeg).toInt ≠ -1) ∧ u = mf3))) (mu_B D (va_A [(mh, .inr (9, G9 ma mcode mtoday moffs mmany msumW msumA msumR msumWW msumWA msumAA msumWR msumAR mupper mlower mrates mtaped mlaid mat mtk mtkAt mtkNumber mwaits mlisted mdealtMany)), ((ma 3), .inl (E 0, 16, .inl mf3)), ((ma 10), .inl (E 0, 6400, .inl mf10))] sz) (fun (u : (Nat → Int32)) => [(mh, .inr (9, G9 ma mcode mtoday moffs mmany msumW msumA msumR msumWW msumWA msumAA msumWR msumAR mupper mlower mrates mtaped mlaid mat mtk mtkAt mtkNumber mwaits mlisted mdealtMany)), ((ma 3), .inl (E 0, 16, .inl u)), ((ma 10), .inl (E 0, 6400, .inl mf10))])) (va_A [(mh, .inr (9, G9 ma mcode mtoday moffs mmany msumW msumA msumR msumWW msumWA msumAA msumWR msumAR mupper mlower mrates mtaped mlaid mat mtk mtkAt mtkNumber mwaits mlisted mdealtMany)), ((ma 3), .inl (E 0, 16, .inl mf3)), ((ma 10), .inl (E 0, 6400, .inl mf10))] sz)) 0 0 (va_A [(mh, .inr (9, G9 ma mcode mtoday moffs mmany msumW msumA msumR msumWW msumWA msumAA msumWR msumAR mupper mlower mrates mtaped mlaid mat mtk mtkAt mtkNumber mwaits mlisted mdealtMany)), ((ma 3), .inl (E 0, 16, .inl mf3)), ((ma 10), .inl (E 0, 6400, .inl mf10))] sz) := by
  refine Met.ofW (cc := cX9_take) (maxL := 2) (ret := (some .int)) (by decide) rfl ?_
  intro p e s m args below meth c s₁ B hml hv
  obtain ⟨rfl, hsz, hP, hK, hD0⟩ := hv
  have hx := B.exec; have hb := B.bytes; have hr := B.returns
  have hts := atoms_spec (ws := wl yX9_take cX9_take 2 (some .int)) B.pre
  have htb : ∀ w ∈ tb, w.before _ s = true := fun w h => hts w (List.mem_cons_of_mem _ h)
  have hown : s.vm.findClass RX9 = some m.cls := findClass_of_methodNamed B.named
  have hlocks := B.notSynchronized
  subst hsz
  have hD := hD0.self (sz := s.heap.size)
  generalize hAe : va_A [(mh, .inr (9, G9 ma mcode mtoday moffs mmany msumW msumA msumR msumWW msumWA msumAA msumWR msumAR mupper mlower mrates mtaped mlaid mat mtk mtkAt mtkNumber mwaits mlisted mdealtMany)), ((ma 3), .inl (E 0, 16, .inl mf3)), ((ma 10), .inl (E 0, 6400, .inl mf10))] s.heap.size = A at hD ⊢
  have hA : ∀ q : Nat, s.heap.size ≤ q → A q := fun q h => by rw [← hAe]; exact Or.inr h
  have hS : va_S A s.heap s.heap [] := va_S.rf
  have hP : va_P D vwCl [(mh, .inr (9, G9 ma mcode mtoday moffs mmany msumW msumA msumR msumWW msumWA msumAA msumWR msumAR mupper mlower mrates mtaped mlaid mat mtk mtkAt mtkNumber mwaits mlisted mdealtMany)), ((ma 3), .inl (E 0, 16, .inl mf3)), ((ma 10), .inl (E 0, 6400, .inl mf10))] s.heap := hP
  have hl := lv_entry ([.ref mh, .int p0]) (n := 2) (Nat.le_of_ble_eq_true rfl)
  rw [lg_entry_eq]
  generalize (lg_sl ([.ref mh, .int p0]) ++ List.replicate (2 - (lg_sl ([.ref mh, .int p0])).length) Slot.unset).toArray = ls at hl ⊢
  have hl : lv_has ls 2 [(0, .ref mh), (1, .int p0)] := hl
  have lo_p0 := i_lo p0; have hi_p0 := i_hi p0
  refine lv_iload_n hx hb dX9_take_0 rfl (lv_at hl 1 rfl) ?_
  refine callRS (rest := []) (As := [.int p0]) hx hb hml hown htb hK (g_X9_isPlace l D E p0 ) ok_X9_isPlace k_1182 k_1183 k_9 k_1184 ⟨(Nat.le_of_ble_eq_true rfl), (Nat.le_of_ble_eq_true rfl)⟩ ⟨(Nat.le_of_ble_eq_true rfl), (Nat.le_of_ble_eq_true rfl)⟩ hl.1 (Nat.le_of_ble_eq_true rfl) rfl rfl dX9_take_1 (hP.sub (ws' := ([] : va_W)) [] rfl) (fun r_1 hw_2 => ?_)
  rcases hw_2 with ⟨hr_1, hw_2⟩ | ⟨hr_1, hw_2⟩
  ·
    refine W_top (y := .int 1) (by rw [hr_1]) ?_
    refine lv_if_ne (tgt := 9) hx hb dX9_take_4 (by decide) (fun c_4 => ?_) (fun c_4 => absurd c_4 (by decide))
    refine lv_aload_n hx hb dX9_take_9 rfl (lv_at hl 0 rfl) ?_
    refine va_get (D := D) (ci := 9) (v := .ref (ma 3)) (C := RX9) (T := TX9) (N := 68) hx hb htb iX9 hown hK.1 hP 0 rfl rfl 3 (by decide) (htb _ k_961) (fun _ h9 => h9) rfl dX9_take_10 ?_
    refine lv_iload_n hx hb dX9_take_13 rfl (lv_at hl 1 rfl) ?_
    refine va_iald hx hb hK.1 hP 1 0 rfl rfl (g_in rfl (by omega) (by omega)) dX9_take_14 ?_
    refine lv_topi (fun z_5 ez_5 => ?_)
    have kz_5 := congrArg Int32.toInt ez_5
    refine lv_bipush (v := (-5)) hx hb dX9_take_15 (by decide) ?_
    refine lv_icmp_ne (tgt := 23) hx hb dX9_take_17 (by decide) (fun c_6 => ?_) (fun c_6 => ?_)
    ·
      have ic_6 : z_5.toInt ≠ -5 := mt (g_eq rfl t_m5).mpr c_6
      clear c_6
      refine lv_aload_n hx hb dX9_take_23 rfl (lv_at hl 0 rfl) ?_
      refine lv_iload_n hx hb dX9_take_24 rfl (lv_at hl 1 rfl) ?_
      refine callRV (rest := []) (As := [.int p0]) hx hb hml hown htb hK (g_X9_isWatch l D E mh ma mcode mtoday moffs mmany msumW msumA msumR msumWW msumWA msumAA msumWR msumAR mupper mlower mrates mtaped mlaid mat mtk mtkAt mtkNumber mwaits mlisted mdealtMany mf3 p0 (by (try dsimp only); omega) (by (try dsimp only); omega)) ok_X9_isWatch k_1189 k_1191 ks_39 k_9 k_1192 ⟨(Nat.le_of_ble_eq_true rfl), (Nat.le_of_ble_eq_true rfl)⟩ ⟨(Nat.le_of_ble_eq_true rfl), (Nat.le_of_ble_eq_true rfl)⟩ hl.1 (Nat.le_of_ble_eq_true rfl) rfl rfl dX9_take_25 (hP.sub (ws' := [(mh, .inr (9, G9 ma mcode mtoday moffs mmany msumW msumA msumR msumWW msumWA msumAA msumWR msumAR mupper mlower mrates mtaped mlaid mat mtk mtkAt mtkNumber mwaits mlisted mdealtMany)), ((ma 3), .inl (E 0, 16, .inl mf3))]) [0, 1] rfl) rfl rfl 0 rfl (fun r_7 hw_8 => ?_)
      refine lv_if_eq (tgt := 43) hx hb dX9_take_28 (by decide) (fun c_10 => ?_) (fun c_10 => ?_)
      ·
        have ic_10 : r_7.toInt = 0 := (g_eq rfl t_0).mp c_10
        clear c_10
        refine lv_aload_n hx hb dX9_take_43 rfl (lv_at hl 0 rfl) ?_
        refine va_get (D := D) (ci := 9) (v := .ref (ma 3)) (C := RX9) (T := TX9) (N := 68) hx hb htb iX9 hown hK.1 hP 0 rfl rfl 3 (by decide) (htb _ k_961) (fun _ h9 => h9) rfl dX9_take_44 ?_
        refine lv_iload_n hx hb dX9_take_47 rfl (lv_at hl 1 rfl) ?_
        refine lv_bipush (v := (-5)) hx hb dX9_take_48 (by decide) ?_
        refine va_iast hx hb hK.1 hP hD hS 1 0 rfl rfl (g_in rfl (by omega) (by omega)) dX9_take_50 (fun H locs hP hD hS => ?_)
        have hP : va_P D vwCl [(mh, .inr (9, G9 ma mcode mtoday moffs mmany msumW msumA msumR msumWW msumWA msumAA msumWR msumAR mupper mlower mrates mtaped mlaid mat mtk mtkAt mtkNumber mwaits mlisted mdealtMany)), ((ma 3), .inl (E 0, 16, .inl (upd mf3 (p0 : Int32).toNatClampNeg (-5)))), ((ma 10), .inl (E 0, 6400, .inl mf10))] H := hP
        have hD := toW hP hD rfl
        refine lv_iconst (v := 1) hx hb dX9_take_51 (by decide) ?_
        have hP9 := hP.sub (ws' := [(mh, .inr (9, G9 ma mcode mtoday moffs mmany msumW msumA msumR msumWW msumWA msumAA msumWR msumAR mupper mlower mrates mtaped mlaid mat mtk mtkAt mtkNumber mwaits mlisted mdealtMany)), ((ma 3), .inl (E 0, 16, .inl (upd mf3 (p0 : Int32).toNatClampNeg (-5)))), ((ma 10), .inl (E 0, 6400, .inl mf10))]) [0, 1, 2] rfl
        have hD9 := hD.sub (ws' := [(mh, .inr (9, G9 ma mcode mtoday moffs mmany msumW msumA msumR msumWW msumWA msumAA msumWR msumAR mupper mlower mrates mtaped mlaid mat mtk mtkAt mtkNumber mwaits mlisted mdealtMany)), ((ma 3), .inl (E 0, 16, .inl (upd mf3 (p0 : Int32).toNatClampNeg (-5)))), ((ma 10), .inl (E 0, 6400, .inl mf10))]) [0, 1, 2] (by decide) rfl
        exact W.iret (v := 1) hx hb hr (fun t ht hW => ⟨⟨1, (upd mf3 (p0 : Int32).toNatClampNeg (-5)), rfl, (by have hl0 := t_1; (try dsimp only); first | exact Or.inl ⟨by omega, by omega, by omega, by subst_vars; omega, rfl⟩ | exact Or.inr (Or.inl ⟨by omega, by omega, rfl⟩) | exact Or.inr (Or.inr (Or.inl ⟨by omega, by omega, by omega, rfl⟩)) | exact Or.inr (Or.inr (Or.inr ⟨by omega, by omega, by subst_vars; omega, rfl⟩))), by rw [ht]; exact hP9, hD9⟩, hS.F ht⟩) hS.2.2 dX9_take_52
      ·
        have ic_10 : r_7.toInt ≠ 0 := mt (g_eq rfl t_0).mpr c_10
        clear c_10
        refine lv_aload_n hx hb dX9_take_31 rfl (lv_at hl 0 rfl) ?_
        refine lv_iload_n hx hb dX9_take_32 rfl (lv_at hl 1 rfl) ?_
        refine callRV (rest := []) (As := [.int p0]) hx hb hml hown htb hK (g_X9_holderNow l D E mh ma mcode mtoday moffs mmany msumW msumA msumR msumWW msumWA msumAA msumWR msumAR mupper mlower mrates mtaped mlaid mat mtk mtkAt mtkNumber mwaits mlisted mdealtMany mf10 p0 (by (try dsimp only); omega) (by (try dsimp only); omega)) ok_X9_holderNow k_1193 k_1195 ks_40 k_9 k_1196 ⟨(Nat.le_of_ble_eq_true rfl), (Nat.le_of_ble_eq_true rfl)⟩ ⟨(Nat.le_of_ble_eq_true rfl), (Nat.le_of_ble_eq_true rfl)⟩ hl.1 (Nat.le_of_ble_eq_true rfl) rfl rfl dX9_take_33 (hP.sub (ws' := [(mh, .inr (9, G9 ma mcode mtoday moffs mmany msumW msumA msumR msumWW msumWA msumAA msumWR msumAR mupper mlower mrates mtaped mlaid mat mtk mtkAt mtkNumber mwaits mlisted mdealtMany)), ((ma 10), .inl (E 0, 6400, .inl mf10))]) [0, 2] rfl) rfl rfl 0 rfl (fun r_11 hw_12 => ?_)
        refine lv_iconst (v := (-1)) hx hb dX9_take_36 (by decide) ?_
        refine lv_icmp_eq (tgt := 43) hx hb dX9_take_37 (by decide) (fun c_14 => ?_) (fun c_14 => ?_)
        ·
          have ic_14 : r_11.toInt = -1 := (g_eq rfl t_m1).mp c_14
          clear c_14
          refine lv_aload_n hx hb dX9_take_43 rfl (lv_at hl 0 rfl) ?_
          refine va_get (D := D) (ci := 9) (v := .ref (ma 3)) (C := RX9) (T := TX9) (N := 68) hx hb htb iX9 hown hK.1 hP 0 rfl rfl 3 (by decide) (htb _ k_961) (fun _ h9 => h9) rfl dX9_take_44 ?_
          refine lv_iload_n hx hb dX9_take_47 rfl (lv_at hl 1 rfl) ?_
          refine lv_bipush (v := (-5)) hx hb dX9_take_48 (by decide) ?_
          refine va_iast hx hb hK.1 hP hD hS 1 0 rfl rfl (g_in rfl (by omega) (by omega)) dX9_take_50 (fun H locs hP hD hS => ?_)
          have hP : va_P D vwCl [(mh, .inr (9, G9 ma mcode mtoday moffs mmany msumW msumA msumR msumWW msumWA msumAA msumWR msumAR mupper mlower mrates mtaped mlaid mat mtk mtkAt mtkNumber mwaits mlisted mdealtMany)), ((ma 3), .inl (E 0, 16, .inl (upd mf3 (p0 : Int32).toNatClampNeg (-5)))), ((ma 10), .inl (E 0, 6400, .inl mf10))] H := hP
          have hD := toW hP hD rfl
          refine lv_iconst (v := 1) hx hb dX9_take_51 (by decide) ?_
          have hP9 := hP.sub (ws' := [(mh, .inr (9, G9 ma mcode mtoday moffs mmany msumW msumA msumR msumWW msumWA msumAA msumWR msumAR mupper mlower mrates mtaped mlaid mat mtk mtkAt mtkNumber mwaits mlisted mdealtMany)), ((ma 3), .inl (E 0, 16, .inl (upd mf3 (p0 : Int32).toNatClampNeg (-5)))), ((ma 10), .inl (E 0, 6400, .inl mf10))]) [0, 1, 2] rfl
          have hD9 := hD.sub (ws' := [(mh, .inr (9, G9 ma mcode mtoday moffs mmany msumW msumA msumR msumWW msumWA msumAA msumWR msumAR mupper mlower mrates mtaped mlaid mat mtk mtkAt mtkNumber mwaits mlisted mdealtMany)), ((ma 3), .inl (E 0, 16, .inl (upd mf3 (p0 : Int32).toNatClampNeg (-5)))), ((ma 10), .inl (E 0, 6400, .inl mf10))]) [0, 1, 2] (by decide) rfl
          exact W.iret (v := 1) hx hb hr (fun t ht hW => ⟨⟨1, (upd mf3 (p0 : Int32).toNatClampNeg (-5)), rfl, (by have hl0 := t_1; (try dsimp only); first | exact Or.inl ⟨by omega, by omega, by omega, by subst_vars; omega, rfl⟩ | exact Or.inr (Or.inl ⟨by omega, by omega, rfl⟩) | exact Or.inr (Or.inr (Or.inl ⟨by omega, by omega, by omega, rfl⟩)) | exact Or.inr (Or.inr (Or.inr ⟨by omega, by omega, by subst_vars; omega, rfl⟩))), by rw [ht]; exact hP9, hD9⟩, hS.F ht⟩) hS.2.2 dX9_take_52
        ·
          have ic_14 : r_11.toInt ≠ -1 := mt (g_eq rfl t_m1).mpr c_14
          clear c_14
          refine lv_bipush (v := (-4)) hx hb dX9_take_40 (by decide) ?_
          have hP9 := hP.sub (ws' := [(mh, .inr (9, G9 ma mcode mtoday moffs mmany msumW msumA msumR msumWW msumWA msumAA msumWR msumAR mupper mlower mrates mtaped mlaid mat mtk mtkAt mtkNumber mwaits mlisted mdealtMany)), ((ma 3), .inl (E 0, 16, .inl mf3)), ((ma 10), .inl (E 0, 6400, .inl mf10))]) [0, 1, 2] rfl
          have hD9 := hD.sub (ws' := [(mh, .inr (9, G9 ma mcode mtoday moffs mmany msumW msumA msumR msumWW msumWA msumAA msumWR msumAR mupper mlower mrates mtaped mlaid mat mtk mtkAt mtkNumber mwaits mlisted mdealtMany)), ((ma 3), .inl (E 0, 16, .inl mf3)), ((ma 10), .inl (E 0, 6400, .inl mf10))]) [0, 1, 2] (by decide) rfl
          exact W.iret (v := (-4)) hx hb hr (fun t ht hW => ⟨⟨(-4), mf3, rfl, (by have hl0 := t_m4; (try dsimp only); first | exact Or.inl ⟨by omega, by omega, by omega, by subst_vars; omega, rfl⟩ | exact Or.inr (Or.inl ⟨by omega, by omega, rfl⟩) | exact Or.inr (Or.inr (Or.inl ⟨by omega, by omega, by omega, rfl⟩)) | exact Or.inr (Or.inr (Or.inr ⟨by omega, by omega, by subst_vars; omega, rfl⟩))), by rw [ht]; exact hP9, hD9⟩, hS.F ht⟩) hS.2.2 dX9_take_42
    ·
      have ic_6 : z_5.toInt = -5 := (g_eq rfl t_m5).mp c_6
      clear c_6
      refine lv_bipush (v := (-2)) hx hb dX9_take_20 (by decide) ?_
      have hP9 := hP.sub (ws' := [(mh, .inr (9, G9 ma mcode mtoday moffs mmany msumW msumA msumR msumWW msumWA msumAA msumWR msumAR mupper mlower mrates mtaped mlaid mat mtk mtkAt mtkNumber mwaits mlisted mdealtMany)), ((ma 3), .inl (E 0, 16, .inl mf3)), ((ma 10), .inl (E 0, 6400, .inl mf10))]) [0, 1, 2] rfl
      have hD9 := hD.sub (ws' := [(mh, .inr (9, G9 ma mcode mtoday moffs mmany msumW msumA msumR msumWW msumWA msumAA msumWR msumAR mupper mlower mrates mtaped mlaid mat mtk mtkAt mtkNumber mwaits mlisted mdealtMany)), ((ma 3), .inl (E 0, 16, .inl mf3)), ((ma 10), .inl (E 0, 6400, .inl mf10))]) [0, 1, 2] (by decide) rfl
      exact W.iret (v := (-2)) hx hb hr (fun t ht hW => ⟨⟨(-2), mf3, rfl, (by have hl0 := t_m2; (try dsimp only); first | exact Or.inl ⟨by omega, by omega, by omega, by subst_vars; omega, rfl⟩ | exact Or.inr (Or.inl ⟨by omega, by omega, rfl⟩) | exact Or.inr (Or.inr (Or.inl ⟨by omega, by omega, by omega, rfl⟩)) | exact Or.inr (Or.inr (Or.inr ⟨by omega, by omega, by subst_vars; omega, rfl⟩))), by rw [ht]; exact hP9, hD9⟩, hS.F ht⟩) hS.2.2 dX9_take_22
  ·
    refine W_top (y := .int 0) (by rw [hr_1]) ?_
    refine lv_if_ne (tgt := 9) hx hb dX9_take_4 (by decide) (fun c_15 => absurd (by decide) c_15) (fun c_15 => ?_)
    refine lv_iconst (v := (-1)) hx hb dX9_take_7 (by decide) ?_
    have hP9 := hP.sub (ws' := [(mh, .inr (9, G9 ma mcode mtoday moffs mmany msumW msumA msumR msumWW msumWA msumAA msumWR msumAR mupper mlower mrates mtaped mlaid mat mtk mtkAt mtkNumber mwaits mlisted mdealtMany)), ((ma 3), .inl (E 0, 16, .inl mf3)), ((ma 10), .inl (E 0, 6400, .inl mf10))]) [0, 1, 2] rfl
    have hD9 := hD.sub (ws' := [(mh, .inr (9, G9 ma mcode mtoday moffs mmany msumW msumA msumR msumWW msumWA msumAA msumWR msumAR mupper mlower mrates mtaped mlaid mat mtk mtkAt mtkNumber mwaits mlisted mdealtMany)), ((ma 3), .inl (E 0, 16, .inl mf3)), ((ma 10), .inl (E 0, 6400, .inl mf10))]) [0, 1, 2] (by decide) rfl
    exact W.iret (v := (-1)) hx hb hr (fun t ht hW => ⟨⟨(-1), mf3, rfl, (by have hl0 := t_m1; (try dsimp only); first | exact Or.inl ⟨by omega, by omega, by omega, by subst_vars; omega, rfl⟩ | exact Or.inr (Or.inl ⟨by omega, by omega, rfl⟩) | exact Or.inr (Or.inr (Or.inl ⟨by omega, by omega, by omega, rfl⟩)) | exact Or.inr (Or.inr (Or.inr ⟨by omega, by omega, by subst_vars; omega, rfl⟩))), by rw [ht]; exact hP9, hD9⟩, hS.F ht⟩) hS.2.2 dX9_take_8
set_option maxHeartbeats 4000000 in
set_option maxRecDepth 100000 in
theorem g_X9_holds (l : Launch) (D : va_G) (E : Nat → Nat) (mh : Nat) (ma : Nat → Nat) (mcode : Int32) (mtoday : Int32) (moffs : Int32) (mmany : Int64) (msumW : Int64) (msumA : Int64) (msumR : Int64) (msumWW : Int64) (msumWA : Int64) (msumAA : Int64) (msumWR : Int64) (msumAR : Int64) (mupper : Int64) (mlower : Int64) (mrates : Int32) (mtaped : Int32) (mlaid : Int32) (mat : Int32) (mtk : Int32) (mtkAt : Int32) (mtkNumber : Int32) (mwaits : Int32) (mlisted : Int32) (mdealtMany : Int32) (mf3 : Nat → Int32) (p0 : Int32) (hi_m : (0 ≤ mtoday.toInt ∧ mtoday.toInt ≤ 399) ∧ (0 ≤ moffs.toInt ∧ moffs.toInt ≤ 60) ∧ (0 ≤ mrates.toInt ∧ mrates.toInt ≤ 60) ∧ (0 ≤ mtaped.toInt ∧ mtaped.toInt ≤ 120) ∧ (0 ≤ mlisted.toInt ∧ mlisted.toInt ≤ 9) ∧ (0 ≤ mdealtMany.toInt ∧ mdealtMany.toInt ≤ 9)) : Met l yX9_holds (wl yX9_holds cX9_holds 2 (some .int)) (RM 2 0 0) (rd_P D E [.ref mh, .int p0] [(mh, .inr (9, G9 ma mcode mtoday moffs mmany msumW msumA msumR msumWW msumWA msumAA msumWR msumAR mupper mlower mrates mtaped mlaid mat mtk mtkAt mtkNumber mwaits mlisted mdealtMany)), ((ma 3), .inl (E 0, 16, .inl mf3))]) (rd_Q (fun r => (((0 ≤ p0.toInt ∧ p0.toInt ≤ 15) ∧ r = mf3 (p0).toNatClampNeg) ∨ (¬ (0 ≤ p0.toInt ∧ p0.toInt ≤ 15) ∧ r.toInt = -1)))) 0 0 (fun _ => False) := by
  refine Met.ofW (cc := cX9_holds) (maxL := 2) (ret := (some .int)) (by decide) rfl ?_
  intro p e s m args below meth c s₁ B hml hv
  obtain ⟨rfl, hP, hK⟩ := hv
  have hx := B.exec; have hb := B.bytes; have hr := B.returns
  have hts := atoms_spec (ws := wl yX9_holds cX9_holds 2 (some .int)) B.pre
  have htb : ∀ w ∈ tb, w.before _ s = true := fun w h => hts w (List.mem_cons_of_mem _ h)
  have hown : s.vm.findClass RX9 = some m.cls := findClass_of_methodNamed B.named
  have hlocks := B.notSynchronized
  have hP : va_P D vwCl [(mh, .inr (9, G9 ma mcode mtoday moffs mmany msumW msumA msumR msumWW msumWA msumAA msumWR msumAR mupper mlower mrates mtaped mlaid mat mtk mtkAt mtkNumber mwaits mlisted mdealtMany)), ((ma 3), .inl (E 0, 16, .inl mf3))] s.heap := hP
  have hl := lv_entry ([.ref mh, .int p0]) (n := 2) (Nat.le_of_ble_eq_true rfl)
  rw [lg_entry_eq]
  generalize (lg_sl ([.ref mh, .int p0]) ++ List.replicate (2 - (lg_sl ([.ref mh, .int p0])).length) Slot.unset).toArray = ls at hl ⊢
  have hl : lv_has ls 2 [(0, .ref mh), (1, .int p0)] := hl
  have lo_p0 := i_lo p0; have hi_p0 := i_hi p0
  refine lv_iload_n hx hb dX9_holds_0 rfl (lv_at hl 1 rfl) ?_
  refine callRS (rest := []) (As := [.int p0]) hx hb hml hown htb hK (g_X9_isPlace l D E p0 ) ok_X9_isPlace k_1182 k_1183 k_9 k_1184 ⟨(Nat.le_of_ble_eq_true rfl), (Nat.le_of_ble_eq_true rfl)⟩ ⟨(Nat.le_of_ble_eq_true rfl), (Nat.le_of_ble_eq_true rfl)⟩ hl.1 (Nat.le_of_ble_eq_true rfl) rfl rfl dX9_holds_1 (hP.sub (ws' := ([] : va_W)) [] rfl) (fun r_1 hw_2 => ?_)
  rcases hw_2 with ⟨hr_1, hw_2⟩ | ⟨hr_1, hw_2⟩
  ·
    refine W_top (y := .int 1) (by rw [hr_1]) ?_
    refine lv_if_eq (tgt := 16) hx hb dX9_holds_4 (by decide) (fun c_4 => absurd c_4 (by decide)) (fun c_4 => ?_)
    refine lv_aload_n hx hb dX9_holds_7 rfl (lv_at hl 0 rfl) ?_
    refine va_get (D := D) (ci := 9) (v := .ref (ma 3)) (C := RX9) (T := TX9) (N := 68) hx hb htb iX9 hown hK.1 hP 0 rfl rfl 3 (by decide) (htb _ k_961) (fun _ h9 => h9) rfl dX9_holds_8 ?_
    refine lv_iload_n hx hb dX9_holds_11 rfl (lv_at hl 1 rfl) ?_
    refine va_iald hx hb hK.1 hP 1 0 rfl rfl (g_in rfl (by omega) (by omega)) dX9_holds_12 ?_
    refine lv_topi (fun z_5 ez_5 => ?_)
    have kz_5 := congrArg Int32.toInt ez_5
    refine lv_goto (tgt := 17) hx hb dX9_holds_13 (by decide) ?_
    exact W.iret (v := z_5) hx hb hr (fun t ht hW => ⟨z_5, rfl, (by (try dsimp only); first | exact Or.inl ⟨by omega, by subst_vars; rfl⟩ | exact Or.inr ⟨by omega, by omega⟩), ht⟩) (fun q h => by cases h) dX9_holds_17
  ·
    refine W_top (y := .int 0) (by rw [hr_1]) ?_
    refine lv_if_eq (tgt := 16) hx hb dX9_holds_4 (by decide) (fun c_6 => ?_) (fun c_6 => absurd (by decide) c_6)
    refine lv_iconst (v := (-1)) hx hb dX9_holds_16 (by decide) ?_
    exact W.iret (v := (-1)) hx hb hr (fun t ht hW => ⟨(-1), rfl, (by have hl0 := t_m1; (try dsimp only); first | exact Or.inl ⟨by omega, by subst_vars; rfl⟩ | exact Or.inr ⟨by omega, by omega⟩), ht⟩) (fun q h => by cases h) dX9_holds_17
set_option maxHeartbeats 4000000 in
set_option maxRecDepth 100000 in
theorem g_X9_read (l : Launch) (D : va_G) (E : Nat → Nat) (mh : Nat) (ma : Nat → Nat) (mcode : Int32) (mtoday : Int32) (moffs : Int32) (mmany : Int64) (msumW : Int64) (msumA : Int64) (msumR : Int64) (msumWW : Int64) (msumWA : Int64) (msumAA : Int64) (msumWR : Int64) (msumAR : Int64) (mupper : Int64) (mlower : Int64) (mrates : Int32) (mtaped : Int32) (mlaid : Int32) (mat : Int32) (mtk : Int32) (mtkAt : Int32) (mtkNumber : Int32) (mwaits : Int32) (mlisted : Int32) (mdealtMany : Int32) (mf3 : Nat → Int32) (mf4 : Nat → Int32) (p0 : Int32) (hi_m : (0 ≤ mtoday.toInt ∧ mtoday.toInt ≤ 399) ∧ (0 ≤ moffs.toInt ∧ moffs.toInt ≤ 60) ∧ (0 ≤ mrates.toInt ∧ mrates.toInt ≤ 60) ∧ (0 ≤ mtaped.toInt ∧ mtaped.toInt ≤ 120) ∧ (0 ≤ mlisted.toInt ∧ mlisted.toInt ≤ 9) ∧ (0 ≤ mdealtMany.toInt ∧ mdealtMany.toInt ≤ 9)) : Met l yX9_read (wl yX9_read cX9_read 2 (some .int)) (RM 2 0 0) (rd_P D E [.ref mh, .int p0] [(mh, .inr (9, G9 ma mcode mtoday moffs mmany msumW msumA msumR msumWW msumWA msumAA msumWR msumAR mupper mlower mrates mtaped mlaid mat mtk mtkAt mtkNumber mwaits mlisted mdealtMany)), ((ma 3), .inl (E 0, 16, .inl mf3)), ((ma 4), .inl (E 0, 16, .inl mf4))]) (rd_Q (fun r => ((((0 ≤ p0.toInt ∧ p0.toInt ≤ 15) ∧ ((mf3 (p0).toNatClampNeg).toInt = 1 ∨ (mf3 (p0).toNatClampNeg).toInt = 2)) ∧ r = mf4 (p0).toNatClampNeg) ∨ (¬ ((0 ≤ p0.toInt ∧ p0.toInt ≤ 15) ∧ ((mf3 (p0).toNatClampNeg).toInt = 1 ∨ (mf3 (p0).toNatClampNeg).toInt = 2)) ∧ r.toInt = -2000000000)))) 0 0 (fun _ => False) := by
  refine Met.ofW (cc := cX9_read) (maxL := 2) (ret := (some .int)) (by decide) rfl ?_
  intro p e s m args below meth c s₁ B hml hv
  obtain ⟨rfl, hP, hK⟩ := hv
  have hx := B.exec; have hb := B.bytes; have hr := B.returns
  have hts := atoms_spec (ws := wl yX9_read cX9_read 2 (some .int)) B.pre
  have htb : ∀ w ∈ tb, w.before _ s = true := fun w h => hts w (List.mem_cons_of_mem _ h)
  have hown : s.vm.findClass RX9 = some m.cls := findClass_of_methodNamed B.named
  have hlocks := B.notSynchronized
  have hP : va_P D vwCl [(mh, .inr (9, G9 ma mcode mtoday moffs mmany msumW msumA msumR msumWW msumWA msumAA msumWR msumAR mupper mlower mrates mtaped mlaid mat mtk mtkAt mtkNumber mwaits mlisted mdealtMany)), ((ma 3), .inl (E 0, 16, .inl mf3)), ((ma 4), .inl (E 0, 16, .inl mf4))] s.heap := hP
  have hl := lv_entry ([.ref mh, .int p0]) (n := 2) (Nat.le_of_ble_eq_true rfl)
  rw [lg_entry_eq]
  generalize (lg_sl ([.ref mh, .int p0]) ++ List.replicate (2 - (lg_sl ([.ref mh, .int p0])).length) Slot.unset).toArray = ls at hl ⊢
  have hl : lv_has ls 2 [(0, .ref mh), (1, .int p0)] := hl
  have lo_p0 := i_lo p0; have hi_p0 := i_hi p0
  refine lv_iload_n hx hb dX9_read_0 rfl (lv_at hl 1 rfl) ?_
  refine callRS (rest := []) (As := [.int p0]) hx hb hml hown htb hK (g_X9_isPlace l D E p0 ) ok_X9_isPlace k_1182 k_1183 k_9 k_1184 ⟨(Nat.le_of_ble_eq_true rfl), (Nat.le_of_ble_eq_true rfl)⟩ ⟨(Nat.le_of_ble_eq_true rfl), (Nat.le_of_ble_eq_true rfl)⟩ hl.1 (Nat.le_of_ble_eq_true rfl) rfl rfl dX9_read_1 (hP.sub (ws' := ([] : va_W)) [] rfl) (fun r_1 hw_2 => ?_)
  rcases hw_2 with ⟨hr_1, hw_2⟩ | ⟨hr_1, hw_2⟩
  ·
    refine W_top (y := .int 1) (by rw [hr_1]) ?_
    refine lv_if_eq (tgt := 27) hx hb dX9_read_4 (by decide) (fun c_4 => absurd c_4 (by decide)) (fun c_4 => ?_)
    refine lv_aload_n hx hb dX9_read_7 rfl (lv_at hl 0 rfl) ?_
    refine va_get (D := D) (ci := 9) (v := .ref (ma 3)) (C := RX9) (T := TX9) (N := 68) hx hb htb iX9 hown hK.1 hP 0 rfl rfl 3 (by decide) (htb _ k_961) (fun _ h9 => h9) rfl dX9_read_8 ?_
    refine lv_iload_n hx hb dX9_read_11 rfl (lv_at hl 1 rfl) ?_
    refine va_iald hx hb hK.1 hP 1 0 rfl rfl (g_in rfl (by omega) (by omega)) dX9_read_12 ?_
    refine lv_topi (fun z_5 ez_5 => ?_)
    have kz_5 := congrArg Int32.toInt ez_5
    refine lv_iconst (v := 1) hx hb dX9_read_13 (by decide) ?_
    refine lv_icmp_eq (tgt := 32) hx hb dX9_read_14 (by decide) (fun c_6 => ?_) (fun c_6 => ?_)
    ·
      have ic_6 : z_5.toInt = 1 := (g_eq rfl t_1).mp c_6
      clear c_6
      refine lv_aload_n hx hb dX9_read_32 rfl (lv_at hl 0 rfl) ?_
      refine va_get (D := D) (ci := 9) (v := .ref (ma 4)) (C := RX9) (T := TX9) (N := 68) hx hb htb iX9 hown hK.1 hP 0 rfl rfl 4 (by decide) (htb _ k_962) (fun _ h9 => h9) rfl dX9_read_33 ?_
      refine lv_iload_n hx hb dX9_read_36 rfl (lv_at hl 1 rfl) ?_
      refine va_iald hx hb hK.1 hP 2 0 rfl rfl (g_in rfl (by omega) (by omega)) dX9_read_37 ?_
      refine lv_topi (fun z_7 ez_7 => ?_)
      have kz_7 := congrArg Int32.toInt ez_7
      exact W.iret (v := z_7) hx hb hr (fun t ht hW => ⟨z_7, rfl, (by (try dsimp only); first | exact Or.inl ⟨by omega, by subst_vars; rfl⟩ | exact Or.inr ⟨by omega, by omega⟩), ht⟩) (fun q h => by cases h) dX9_read_38
    ·
      have ic_6 : z_5.toInt ≠ 1 := mt (g_eq rfl t_1).mpr c_6
      clear c_6
      refine lv_aload_n hx hb dX9_read_17 rfl (lv_at hl 0 rfl) ?_
      refine va_get (D := D) (ci := 9) (v := .ref (ma 3)) (C := RX9) (T := TX9) (N := 68) hx hb htb iX9 hown hK.1 hP 0 rfl rfl 3 (by decide) (htb _ k_961) (fun _ h9 => h9) rfl dX9_read_18 ?_
      refine lv_iload_n hx hb dX9_read_21 rfl (lv_at hl 1 rfl) ?_
      refine va_iald hx hb hK.1 hP 1 0 rfl rfl (g_in rfl (by omega) (by omega)) dX9_read_22 ?_
      refine lv_topi (fun z_8 ez_8 => ?_)
      have kz_8 := congrArg Int32.toInt ez_8
      refine lv_iconst (v := 2) hx hb dX9_read_23 (by decide) ?_
      refine lv_icmp_eq (tgt := 32) hx hb dX9_read_24 (by decide) (fun c_9 => ?_) (fun c_9 => ?_)
      ·
        have ic_9 : z_8.toInt = 2 := (g_eq rfl t_2).mp c_9
        clear c_9
        refine lv_aload_n hx hb dX9_read_32 rfl (lv_at hl 0 rfl) ?_
        refine va_get (D := D) (ci := 9) (v := .ref (ma 4)) (C := RX9) (T := TX9) (N := 68) hx hb htb iX9 hown hK.1 hP 0 rfl rfl 4 (by decide) (htb _ k_962) (fun _ h9 => h9) rfl dX9_read_33 ?_
        refine lv_iload_n hx hb dX9_read_36 rfl (lv_at hl 1 rfl) ?_
        refine va_iald hx hb hK.1 hP 2 0 rfl rfl (g_in rfl (by omega) (by omega)) dX9_read_37 ?_
        refine lv_topi (fun z_10 ez_10 => ?_)
        have kz_10 := congrArg Int32.toInt ez_10
        exact W.iret (v := z_10) hx hb hr (fun t ht hW => ⟨z_10, rfl, (by (try dsimp only); first | exact Or.inl ⟨by omega, by subst_vars; rfl⟩ | exact Or.inr ⟨by omega, by omega⟩), ht⟩) (fun q h => by cases h) dX9_read_38
      ·
        have ic_9 : z_8.toInt ≠ 2 := mt (g_eq rfl t_2).mpr c_9
        clear c_9
        refine lv_ldc hx hb hown (htb _ k_1205) dX9_read_27 ?_
        refine lv_goto (tgt := 38) hx hb dX9_read_29 (by decide) ?_
        exact W.iret (v := (-2000000000)) hx hb hr (fun t ht hW => ⟨(-2000000000), rfl, (by have hl0 := t_m2000000000; (try dsimp only); first | exact Or.inl ⟨by omega, by subst_vars; rfl⟩ | exact Or.inr ⟨by omega, by omega⟩), ht⟩) (fun q h => by cases h) dX9_read_38
  ·
    refine W_top (y := .int 0) (by rw [hr_1]) ?_
    refine lv_if_eq (tgt := 27) hx hb dX9_read_4 (by decide) (fun c_11 => ?_) (fun c_11 => absurd (by decide) c_11)
    refine lv_ldc hx hb hown (htb _ k_1205) dX9_read_27 ?_
    refine lv_goto (tgt := 38) hx hb dX9_read_29 (by decide) ?_
    exact W.iret (v := (-2000000000)) hx hb hr (fun t ht hW => ⟨(-2000000000), rfl, (by have hl0 := t_m2000000000; (try dsimp only); first | exact Or.inl ⟨by omega, by subst_vars; rfl⟩ | exact Or.inr ⟨by omega, by omega⟩), ht⟩) (fun q h => by cases h) dX9_read_38
set_option maxHeartbeats 4000000 in
set_option maxRecDepth 100000 in
theorem g_X9_compare (l : Launch) (D : va_G) (E : Nat → Nat) (mh : Nat) (ma : Nat → Nat) (mcode : Int32) (mtoday : Int32) (moffs : Int32) (mmany : Int64) (msumW : Int64) (msumA : Int64) (msumR : Int64) (msumWW : Int64) (msumWA : Int64) (msumAA : Int64) (msumWR : Int64) (msumAR : Int64) (mupper : Int64) (mlower : Int64) (mrates : Int32) (mtaped : Int32) (mlaid : Int32) (mat : Int32) (mtk : Int32) (mtkAt : Int32) (mtkNumber : Int32) (mwaits : Int32) (mlisted : Int32) (mdealtMany : Int32) (mf3 : Nat → Int32) (mf5 : Nat → Int32) (mf6 : Nat → Int32) (mf7 : Nat → Int32) (mf10 : Nat → Int32) (p0 : Int32) (p1 : Int32) (p2 : Int32) (p3 : Int32) (sz : Nat) (hi_m : (0 ≤ mtoday.toInt ∧ mtoday.toInt ≤ 399) ∧ (0 ≤ moffs.toInt ∧ moffs.toInt ≤ 60) ∧ (0 ≤ mrates.toInt ∧ mrates.toInt ≤ 60) ∧ (0 ≤ mtaped.toInt ∧ mtaped.toInt ≤ 120) ∧ (0 ≤ mlisted.toInt ∧ mlisted.toInt ≤ 9) ∧ (0 ≤ mdealtMany.toInt ∧ mdealtMany.toInt ≤ 9)) : Met l yX9_compare (wl yX9_compare cX9_compare 7 (some .int)) (RM 3 0 0) (mu_P D E [.ref mh, .int p0, .int p1, .int p2, .int p3] [(mh, .inr (9, G9 ma mcode mtoday moffs mmany msumW msumA msumR msumWW msumWA msumAA msumWR msumAR mupper mlower mrates mtaped mlaid mat mtk mtkAt mtkNumber mwaits mlisted mdealtMany)), ((ma 3), .inl (E 0, 16, .inl mf3)), ((ma 5), .inl (E 1, 6400, .inl mf5)), ((ma 6), .inl (E 0, 6400, .inl mf6)), ((ma 7), .inl (E 0, 6400, .inl mf7)), ((ma 10), .inl (E 0, 6400, .inl mf10))] sz) (va_Qi (fun (r : Int32) (u : (Nat → Int32) × (Nat → Int32) × (Nat → Int32)) => ((r.toInt = -1 ∧ ¬ ((0 ≤ p0.toInt ∧ p0.toInt ≤ 15) ∧ (0 ≤ p1.toInt ∧ p1.toInt ≤ mtoday.toInt) ∧ (-100000 ≤ p2.toInt ∧ p2.toInt ≤ 100000) ∧ (0 ≤ p3.toInt ∧ p3.toInt ≤ 5)) ∧ u.1 = mf5 ∧ u.2.1 = mf6 ∧ u.2.2 = mf7) ∨ (((0 ≤ p0.toInt ∧ p0.toInt ≤ 15) ∧ (0 ≤ p1.toInt ∧ p1.toInt ≤ mtoday.toInt) ∧ (-100000 ≤ p2.toInt ∧ p2.toInt ≤ 100000) ∧ (0 ≤ p3.toInt ∧ p3.toInt ≤ 5)) ∧ (((mf3 (p0).toNatClampNeg).toInt = -5 ∧ r.toInt = -2) ∨ ((mf3 (p0).toNatClampNeg).toInt = 2 ∧ r.toInt = -3)) ∧ u.1 = mf5 ∧ u.2.1 = mf6 ∧ u.2.2 = mf7) ∨ (((0 ≤ p0.toInt ∧ p0.toInt ≤ 15) ∧ (0 ≤ p1.toInt ∧ p1.toInt ≤ mtoday.toInt) ∧ (-100000 ≤ p2.toInt ∧ p2.toInt ≤ 100000) ∧ (0 ≤ p3.toInt ∧ p3.toInt ≤ 5)) ∧ ((mf3 (p0).toNatClampNeg).toInt ≠ -5 ∧ (mf3 (p0).toNatClampNeg).toInt ≠ 2) ∧ ((mf5 (400 * p0 + p1).toNatClampNeg).toInt ≠ 0 ∨ (mf10 (400 * p0 + p1).toNatClampNeg).toInt ≠ -1) ∧ r.toInt = -4 ∧ u.1 = mf5 ∧ u.2.1 = mf6 ∧ u.2.2 = mf7) ∨ (((0 ≤ p0.toInt ∧ p0.toInt ≤ 15) ∧ (0 ≤ p1.toInt ∧ p1.toInt ≤ mtoday.toInt) ∧ (-100000 ≤ p2.toInt ∧ p2.toInt ≤ 100000) ∧ (0 ≤ p3.toInt ∧ p3.toInt ≤ 5)) ∧ ((mf3 (p0).toNatClampNeg).toInt ≠ -5 ∧ (mf3 (p0).toNatClampNeg).toInt ≠ 2) ∧ ¬ ((mf5 (400 * p0 + p1).toNatClampNeg).toInt ≠ 0 ∨ (mf10 (400 * p0 + p1).toNatClampNeg).toInt ≠ -1) ∧ r.toInt = 1 ∧ u.1 = upd mf5 (400 * p0 + p1).toNatClampNeg 1 ∧ u.2.1 = upd mf6 (400 * p0 + p1).toNatClampNeg p2 ∧ u.2.2 = upd mf7 (400 * p0 + p1).toNatClampNeg p3))) (mu_B D (va_A [(mh, .inr (9, G9 ma mcode mtoday moffs mmany msumW msumA msumR msumWW msumWA msumAA msumWR msumAR mupper mlower mrates mtaped mlaid mat mtk mtkAt mtkNumber mwaits mlisted mdealtMany)), ((ma 3), .inl (E 0, 16, .inl mf3)), ((ma 5), .inl (E 1, 6400, .inl mf5)), ((ma 6), .inl (E 0, 6400, .inl mf6)), ((ma 7), .inl (E 0, 6400, .inl mf7)), ((ma 10), .inl (E 0, 6400, .inl mf10))] sz) (fun (u : (Nat → Int32) × (Nat → Int32) × (Nat → Int32)) => [(mh, .inr (9, G9 ma mcode mtoday moffs mmany msumW msumA msumR msumWW msumWA msumAA msumWR msumAR mupper mlower mrates mtaped mlaid mat mtk mtkAt mtkNumber mwaits mlisted mdealtMany)), ((ma 3), .inl (E 0, 16, .inl mf3)), ((ma 5), .inl (E 1, 6400, .inl u.1)), ((ma 6), .inl (E 0, 6400, .inl u.2.1)), ((ma 7), .inl (E 0, 6400, .inl u.2.2)), ((ma 10), .inl (E 0, 6400, .inl mf10))])) (va_A [(mh, .inr (9, G9 ma mcode mtoday moffs mmany msumW msumA msumR msumWW msumWA msumAA msumWR msumAR mupper mlower mrates mtaped mlaid mat mtk mtkAt mtkNumber mwaits mlisted mdealtMany)), ((ma 3), .inl (E 0, 16, .inl mf3)), ((ma 5), .inl (E 1, 6400, .inl mf5)), ((ma 6), .inl (E 0, 6400, .inl mf6)), ((ma 7), .inl (E 0, 6400, .inl mf7)), ((ma 10), .inl (E 0, 6400, .inl mf10))] sz)) 0 0 (va_A [(mh, .inr (9, G9 ma mcode mtoday moffs mmany msumW msumA msumR msumWW msumWA msumAA msumWR msumAR mupper mlower mrates mtaped mlaid mat mtk mtkAt mtkNumber mwaits mlisted mdealtMany)), ((ma 3), .inl (E 0, 16, .inl mf3)), ((ma 5), .inl (E 1, 6400, .inl mf5)), ((ma 6), .inl (E 0, 6400, .inl mf6)), ((ma 7), .inl (E 0, 6400, .inl mf7)), ((ma 10), .inl (E 0, 6400, .inl mf10))] sz) := by
  refine Met.ofW (cc := cX9_compare) (maxL := 7) (ret := (some .int)) (by decide) rfl ?_
  intro p e s m args below meth c s₁ B hml hv
  obtain ⟨rfl, hsz, hP, hK, hD0⟩ := hv
  have hx := B.exec; have hb := B.bytes; have hr := B.returns
  have hts := atoms_spec (ws := wl yX9_compare cX9_compare 7 (some .int)) B.pre
  have htb : ∀ w ∈ tb, w.before _ s = true := fun w h => hts w (List.mem_cons_of_mem _ h)
  have hown : s.vm.findClass RX9 = some m.cls := findClass_of_methodNamed B.named
  have hlocks := B.notSynchronized
  subst hsz
  have hD := hD0.self (sz := s.heap.size)
  generalize hAe : va_A [(mh, .inr (9, G9 ma mcode mtoday moffs mmany msumW msumA msumR msumWW msumWA msumAA msumWR msumAR mupper mlower mrates mtaped mlaid mat mtk mtkAt mtkNumber mwaits mlisted mdealtMany)), ((ma 3), .inl (E 0, 16, .inl mf3)), ((ma 5), .inl (E 1, 6400, .inl mf5)), ((ma 6), .inl (E 0, 6400, .inl mf6)), ((ma 7), .inl (E 0, 6400, .inl mf7)), ((ma 10), .inl (E 0, 6400, .inl mf10))] s.heap.size = A at hD ⊢
  have hA : ∀ q : Nat, s.heap.size ≤ q → A q := fun q h => by rw [← hAe]; exact Or.inr h
  have hS : va_S A s.heap s.heap [] := va_S.rf
  have hP : va_P D vwCl [(mh, .inr (9, G9 ma mcode mtoday moffs mmany msumW msumA msumR msumWW msumWA msumAA msumWR msumAR mupper mlower mrates mtaped mlaid mat mtk mtkAt mtkNumber mwaits mlisted mdealtMany)), ((ma 3), .inl (E 0, 16, .inl mf3)), ((ma 5), .inl (E 1, 6400, .inl mf5)), ((ma 6), .inl (E 0, 6400, .inl mf6)), ((ma 7), .inl (E 0, 6400, .inl mf7)), ((ma 10), .inl (E 0, 6400, .inl mf10))] s.heap := hP
  have hl := lv_entry ([.ref mh, .int p0, .int p1, .int p2, .int p3]) (n := 7) (Nat.le_of_ble_eq_true rfl)
  rw [lg_entry_eq]
  generalize (lg_sl ([.ref mh, .int p0, .int p1, .int p2, .int p3]) ++ List.replicate (7 - (lg_sl ([.ref mh, .int p0, .int p1, .int p2, .int p3])).length) Slot.unset).toArray = ls at hl ⊢
  have hl : lv_has ls 7 [(0, .ref mh), (1, .int p0), (2, .int p1), (3, .int p2), (4, .int p3)] := hl
  have lo_p0 := i_lo p0; have hi_p0 := i_hi p0
  have lo_p1 := i_lo p1; have hi_p1 := i_hi p1
  have lo_p2 := i_lo p2; have hi_p2 := i_hi p2
  have lo_p3 := i_lo p3; have hi_p3 := i_hi p3
  refine lv_iload_n hx hb dX9_compare_0 rfl (lv_at hl 1 rfl) ?_
  refine callRS (rest := []) (As := [.int p0]) hx hb hml hown htb hK (g_X9_isPlace l D E p0 ) ok_X9_isPlace k_1182 k_1183 k_9 k_1184 ⟨(Nat.le_of_ble_eq_true rfl), (Nat.le_of_ble_eq_true rfl)⟩ ⟨(Nat.le_of_ble_eq_true rfl), (Nat.le_of_ble_eq_true rfl)⟩ hl.1 (Nat.le_of_ble_eq_true rfl) rfl rfl dX9_compare_1 (hP.sub (ws' := ([] : va_W)) [] rfl) (fun r_1 hw_2 => ?_)
  rcases hw_2 with ⟨hr_1, hw_2⟩ | ⟨hr_1, hw_2⟩
  ·
    refine W_top (y := .int 1) (by rw [hr_1]) ?_
    refine lv_if_eq (tgt := 40) hx hb dX9_compare_4 (by decide) (fun c_4 => absurd c_4 (by decide)) (fun c_4 => ?_)
    refine lv_iload_n hx hb dX9_compare_7 rfl (lv_at hl 2 rfl) ?_
    refine lv_iconst (v := 0) hx hb dX9_compare_8 (by decide) ?_
    refine lv_aload_n hx hb dX9_compare_9 rfl (lv_at hl 0 rfl) ?_
    refine va_get (D := D) (ci := 9) (v := .int mtoday) (C := RX9) (T := TX9) (N := 68) hx hb htb iX9 hown hK.1 hP 0 rfl rfl 1 (by decide) (htb _ k_959) (fun _ h9 => h9) rfl dX9_compare_10 ?_
    refine callRS (rest := []) (As := [.int p1, .int 0, .int mtoday]) hx hb hml hown htb hK (g_X9_in l D E p1 0 mtoday ) ok_X9_in k_1168 k_1169 k_9 k_1170 ⟨(Nat.le_of_ble_eq_true rfl), (Nat.le_of_ble_eq_true rfl)⟩ ⟨(Nat.le_of_ble_eq_true rfl), (Nat.le_of_ble_eq_true rfl)⟩ hl.1 (Nat.le_of_ble_eq_true rfl) rfl rfl dX9_compare_13 (hP.sub (ws' := ([] : va_W)) [] rfl) (fun r_5 hw_6 => ?_)
    try simp only [t_0] at hw_6
    rcases hw_6 with ⟨hr_5, hw_6⟩ | ⟨hr_5, hw_6⟩
    ·
      try simp only [t_0] at hw_6
      refine W_top (y := .int 1) (by rw [hr_5]) ?_
      refine lv_if_eq (tgt := 40) hx hb dX9_compare_16 (by decide) (fun c_8 => absurd c_8 (by decide)) (fun c_8 => ?_)
      refine lv_iload_n hx hb dX9_compare_19 rfl (lv_at hl 3 rfl) ?_
      refine lv_ldc hx hb hown (htb _ k_1210) dX9_compare_20 ?_
      refine lv_ldc hx hb hown (htb _ k_1211) dX9_compare_22 ?_
      refine callRS (rest := []) (As := [.int p2, .int (-100000), .int 100000]) hx hb hml hown htb hK (g_X9_in l D E p2 (-100000) 100000 ) ok_X9_in k_1168 k_1169 k_9 k_1170 ⟨(Nat.le_of_ble_eq_true rfl), (Nat.le_of_ble_eq_true rfl)⟩ ⟨(Nat.le_of_ble_eq_true rfl), (Nat.le_of_ble_eq_true rfl)⟩ hl.1 (Nat.le_of_ble_eq_true rfl) rfl rfl dX9_compare_24 (hP.sub (ws' := ([] : va_W)) [] rfl) (fun r_9 hw_10 => ?_)
      try simp only [t_m100000, t_100000] at hw_10
      rcases hw_10 with ⟨hr_9, hw_10⟩ | ⟨hr_9, hw_10⟩
      ·
        try simp only [t_m100000, t_100000] at hw_10
        refine W_top (y := .int 1) (by rw [hr_9]) ?_
        refine lv_if_eq (tgt := 40) hx hb dX9_compare_27 (by decide) (fun c_12 => absurd c_12 (by decide)) (fun c_12 => ?_)
        refine lv_iload hx hb dX9_compare_30 (lv_at hl 4 rfl) ?_
        refine lv_iconst (v := 0) hx hb dX9_compare_32 (by decide) ?_
        refine lv_iconst (v := 5) hx hb dX9_compare_33 (by decide) ?_
        refine callRS (rest := []) (As := [.int p3, .int 0, .int 5]) hx hb hml hown htb hK (g_X9_in l D E p3 0 5 ) ok_X9_in k_1168 k_1169 k_9 k_1170 ⟨(Nat.le_of_ble_eq_true rfl), (Nat.le_of_ble_eq_true rfl)⟩ ⟨(Nat.le_of_ble_eq_true rfl), (Nat.le_of_ble_eq_true rfl)⟩ hl.1 (Nat.le_of_ble_eq_true rfl) rfl rfl dX9_compare_34 (hP.sub (ws' := ([] : va_W)) [] rfl) (fun r_13 hw_14 => ?_)
        try simp only [t_0, t_5] at hw_14
        rcases hw_14 with ⟨hr_13, hw_14⟩ | ⟨hr_13, hw_14⟩
        ·
          try simp only [t_0, t_5] at hw_14
          refine W_top (y := .int 1) (by rw [hr_13]) ?_
          refine lv_if_ne (tgt := 42) hx hb dX9_compare_37 (by decide) (fun c_16 => ?_) (fun c_16 => absurd c_16 (by decide))
          refine lv_aload_n hx hb dX9_compare_42 rfl (lv_at hl 0 rfl) ?_
          refine lv_iload_n hx hb dX9_compare_43 rfl (lv_at hl 1 rfl) ?_
          refine callRV (rest := []) (As := [.int p0]) hx hb hml hown htb hK (g_X9_watchAt l D E mh ma mcode mtoday moffs mmany msumW msumA msumR msumWW msumWA msumAA msumWR msumAR mupper mlower mrates mtaped mlaid mat mtk mtkAt mtkNumber mwaits mlisted mdealtMany mf3 p0 (by (try dsimp only); omega)) ok_X9_watchAt k_1212 k_1214 ks_41 k_9 k_1215 ⟨(Nat.le_of_ble_eq_true rfl), (Nat.le_of_ble_eq_true rfl)⟩ ⟨(Nat.le_of_ble_eq_true rfl), (Nat.le_of_ble_eq_true rfl)⟩ hl.1 (Nat.le_of_ble_eq_true rfl) rfl rfl dX9_compare_44 (hP.sub (ws' := [(mh, .inr (9, G9 ma mcode mtoday moffs mmany msumW msumA msumR msumWW msumWA msumAA msumWR msumAR mupper mlower mrates mtaped mlaid mat mtk mtkAt mtkNumber mwaits mlisted mdealtMany)), ((ma 3), .inl (E 0, 16, .inl mf3))]) [0, 1] rfl) rfl rfl 0 rfl (fun r_17 hw_18 => ?_)
          refine lv_istore (lv' := [(5, .int r_17), (0, .ref mh), (1, .int p0), (2, .int p1), (3, .int p2), (4, .int p3)]) hx hb dX9_compare_47 hl (by decide) rfl (fun ls hl => ?_)
          refine lv_iload hx hb dX9_compare_49 (lv_at hl 0 rfl) ?_
          refine lv_if_ge (tgt := 57) hx hb dX9_compare_51 (by decide) (fun c_20 => ?_) (fun c_20 => ?_)
          ·
            have ic_20 : 0 ≤ r_17.toInt := by first | exact (g_le t_0 rfl).mp c_20 | (have h := mt (g_lt rfl t_0).mpr c_20; omega)
            clear c_20
            refine lv_sipush (v := 400) hx hb dX9_compare_57 (by decide) ?_
            refine lv_iload_n hx hb dX9_compare_60 rfl (lv_at hl 2 rfl) ?_
            refine lv_imul hx hb dX9_compare_61 ?_
            refine lv_topi (fun z_21 ez_21 => ?_)
            have jz_21 : z_21.toInt = 400 * p0.toInt := by rw [ez_21]; exact g_mul t_400 rfl (by omega) (by omega)
            refine lv_iload_n hx hb dX9_compare_62 rfl (lv_at hl 3 rfl) ?_
            refine lv_iadd hx hb dX9_compare_63 ?_
            refine lv_topi (fun z_22 ez_22 => ?_)
            have jz_22 : z_22.toInt = z_21.toInt + p1.toInt := by rw [ez_22]; exact g_add rfl rfl (by omega) (by omega)
            refine lv_istore (lv' := [(6, .int z_22), (5, .int r_17), (0, .ref mh), (1, .int p0), (2, .int p1), (3, .int p2), (4, .int p3)]) hx hb dX9_compare_64 hl (by decide) rfl (fun ls hl => ?_)
            refine lv_aload_n hx hb dX9_compare_66 rfl (lv_at hl 2 rfl) ?_
            refine va_get (D := D) (ci := 9) (v := .ref (ma 5)) (C := RX9) (T := TX9) (N := 68) hx hb htb iX9 hown hK.1 hP 0 rfl rfl 5 (by decide) (htb _ k_963) (fun _ h9 => h9) rfl dX9_compare_67 ?_
            refine lv_iload hx hb dX9_compare_70 (lv_at hl 0 rfl) ?_
            refine va_zald hx hb hK.1 hP 2 1 rfl rfl (g_in rfl (by omega) (by omega)) dX9_compare_72 ?_
            refine lv_topi (fun z_23 ez_23 => ?_)
            have kz_23 := congrArg Int32.toInt ez_23
            refine lv_if_ne (tgt := 87) hx hb dX9_compare_73 (by decide) (fun c_24 => ?_) (fun c_24 => ?_)
            ·
              have ic_24 : z_23.toInt ≠ 0 := mt (g_eq rfl t_0).mpr c_24
              clear c_24
              refine lv_bipush (v := (-4)) hx hb dX9_compare_87 (by decide) ?_
              have hP9 := hP.sub (ws' := [(mh, .inr (9, G9 ma mcode mtoday moffs mmany msumW msumA msumR msumWW msumWA msumAA msumWR msumAR mupper mlower mrates mtaped mlaid mat mtk mtkAt mtkNumber mwaits mlisted mdealtMany)), ((ma 3), .inl (E 0, 16, .inl mf3)), ((ma 5), .inl (E 1, 6400, .inl mf5)), ((ma 6), .inl (E 0, 6400, .inl mf6)), ((ma 7), .inl (E 0, 6400, .inl mf7)), ((ma 10), .inl (E 0, 6400, .inl mf10))]) [0, 1, 2, 3, 4, 5] rfl
              have hD9 := hD.sub (ws' := [(mh, .inr (9, G9 ma mcode mtoday moffs mmany msumW msumA msumR msumWW msumWA msumAA msumWR msumAR mupper mlower mrates mtaped mlaid mat mtk mtkAt mtkNumber mwaits mlisted mdealtMany)), ((ma 3), .inl (E 0, 16, .inl mf3)), ((ma 5), .inl (E 1, 6400, .inl mf5)), ((ma 6), .inl (E 0, 6400, .inl mf6)), ((ma 7), .inl (E 0, 6400, .inl mf7)), ((ma 10), .inl (E 0, 6400, .inl mf10))]) [0, 1, 2, 3, 4, 5] (by decide) rfl
              exact W.iret (v := (-4)) hx hb hr (fun t ht hW => ⟨⟨(-4), (mf5, mf6, mf7), rfl, (by have hl0 := t_m4; (try dsimp only); first | exact Or.inl ⟨by omega, by omega, rfl, rfl, rfl⟩ | exact Or.inr (Or.inl ⟨by omega, by omega, rfl, rfl, rfl⟩) | exact Or.inr (Or.inr (Or.inl ⟨by omega, by omega, by subst_vars; omega, by omega, rfl, rfl, rfl⟩)) | exact Or.inr (Or.inr (Or.inr ⟨by omega, by omega, by subst_vars; omega, by omega, by subst_vars; rfl, by subst_vars; rfl, by subst_vars; rfl⟩))), by rw [ht]; exact hP9, hD9⟩, hS.F ht⟩) hS.2.2 dX9_compare_89
            ·
              have ic_24 : z_23.toInt = 0 := (g_eq rfl t_0).mp c_24
              clear c_24
              refine lv_aload_n hx hb dX9_compare_76 rfl (lv_at hl 2 rfl) ?_
              refine va_get (D := D) (ci := 9) (v := .ref (ma 10)) (C := RX9) (T := TX9) (N := 68) hx hb htb iX9 hown hK.1 hP 0 rfl rfl 10 (by decide) (htb _ k_968) (fun _ h9 => h9) rfl dX9_compare_77 ?_
              refine lv_iload hx hb dX9_compare_80 (lv_at hl 0 rfl) ?_
              refine va_iald hx hb hK.1 hP 5 0 rfl rfl (g_in rfl (by omega) (by omega)) dX9_compare_82 ?_
              refine lv_topi (fun z_25 ez_25 => ?_)
              have kz_25 := congrArg Int32.toInt ez_25
              refine lv_iconst (v := (-1)) hx hb dX9_compare_83 (by decide) ?_
              refine lv_icmp_eq (tgt := 90) hx hb dX9_compare_84 (by decide) (fun c_26 => ?_) (fun c_26 => ?_)
              ·
                have ic_26 : z_25.toInt = -1 := (g_eq rfl t_m1).mp c_26
                clear c_26
                refine lv_aload_n hx hb dX9_compare_90 rfl (lv_at hl 2 rfl) ?_
                refine va_get (D := D) (ci := 9) (v := .ref (ma 5)) (C := RX9) (T := TX9) (N := 68) hx hb htb iX9 hown hK.1 hP 0 rfl rfl 5 (by decide) (htb _ k_963) (fun _ h9 => h9) rfl dX9_compare_91 ?_
                refine lv_iload hx hb dX9_compare_94 (lv_at hl 0 rfl) ?_
                refine lv_iconst (v := 1) hx hb dX9_compare_96 (by decide) ?_
                refine va_zast hx hb hK.1 hP hD hS 2 1 rfl rfl (g_in rfl (by omega) (by omega)) dX9_compare_97 (fun H locs hP hD hS => ?_)
                have hP : va_P D vwCl [(mh, .inr (9, G9 ma mcode mtoday moffs mmany msumW msumA msumR msumWW msumWA msumAA msumWR msumAR mupper mlower mrates mtaped mlaid mat mtk mtkAt mtkNumber mwaits mlisted mdealtMany)), ((ma 3), .inl (E 0, 16, .inl mf3)), ((ma 5), .inl (E 1, 6400, .inl (upd mf5 (z_22 : Int32).toNatClampNeg (vp_nar .boolean 1)))), ((ma 6), .inl (E 0, 6400, .inl mf6)), ((ma 7), .inl (E 0, 6400, .inl mf7)), ((ma 10), .inl (E 0, 6400, .inl mf10))] H := hP
                have hD := toW hP hD rfl
                refine lv_aload_n hx hb dX9_compare_98 rfl (lv_at hl 2 rfl) ?_
                refine va_get (D := D) (ci := 9) (v := .ref (ma 6)) (C := RX9) (T := TX9) (N := 68) hx hb htb iX9 hown hK.1 hP 0 rfl rfl 6 (by decide) (htb _ k_964) (fun _ h9 => h9) rfl dX9_compare_99 ?_
                refine lv_iload hx hb dX9_compare_102 (lv_at hl 0 rfl) ?_
                refine lv_iload_n hx hb dX9_compare_104 rfl (lv_at hl 5 rfl) ?_
                refine va_iast hx hb hK.1 hP hD hS 3 0 rfl rfl (g_in rfl (by omega) (by omega)) dX9_compare_105 (fun H locs hP hD hS => ?_)
                have hP : va_P D vwCl [(mh, .inr (9, G9 ma mcode mtoday moffs mmany msumW msumA msumR msumWW msumWA msumAA msumWR msumAR mupper mlower mrates mtaped mlaid mat mtk mtkAt mtkNumber mwaits mlisted mdealtMany)), ((ma 3), .inl (E 0, 16, .inl mf3)), ((ma 5), .inl (E 1, 6400, .inl (upd mf5 (z_22 : Int32).toNatClampNeg (vp_nar .boolean 1)))), ((ma 6), .inl (E 0, 6400, .inl (upd mf6 (z_22 : Int32).toNatClampNeg p2))), ((ma 7), .inl (E 0, 6400, .inl mf7)), ((ma 10), .inl (E 0, 6400, .inl mf10))] H := hP
                have hD := toW hP hD rfl
                refine lv_aload_n hx hb dX9_compare_106 rfl (lv_at hl 2 rfl) ?_
                refine va_get (D := D) (ci := 9) (v := .ref (ma 7)) (C := RX9) (T := TX9) (N := 68) hx hb htb iX9 hown hK.1 hP 0 rfl rfl 7 (by decide) (htb _ k_965) (fun _ h9 => h9) rfl dX9_compare_107 ?_
                refine lv_iload hx hb dX9_compare_110 (lv_at hl 0 rfl) ?_
                refine lv_iload hx hb dX9_compare_112 (lv_at hl 6 rfl) ?_
                refine va_iast hx hb hK.1 hP hD hS 4 0 rfl rfl (g_in rfl (by omega) (by omega)) dX9_compare_114 (fun H locs hP hD hS => ?_)
                have hP : va_P D vwCl [(mh, .inr (9, G9 ma mcode mtoday moffs mmany msumW msumA msumR msumWW msumWA msumAA msumWR msumAR mupper mlower mrates mtaped mlaid mat mtk mtkAt mtkNumber mwaits mlisted mdealtMany)), ((ma 3), .inl (E 0, 16, .inl mf3)), ((ma 5), .inl (E 1, 6400, .inl (upd mf5 (z_22 : Int32).toNatClampNeg (vp_nar .boolean 1)))), ((ma 6), .inl (E 0, 6400, .inl (upd mf6 (z_22 : Int32).toNatClampNeg p2))), ((ma 7), .inl (E 0, 6400, .inl (upd mf7 (z_22 : Int32).toNatClampNeg p3))), ((ma 10), .inl (E 0, 6400, .inl mf10))] H := hP
                have hD := toW hP hD rfl
                refine lv_iconst (v := 1) hx hb dX9_compare_115 (by decide) ?_
                have hP9 := hP.sub (ws' := [(mh, .inr (9, G9 ma mcode mtoday moffs mmany msumW msumA msumR msumWW msumWA msumAA msumWR msumAR mupper mlower mrates mtaped mlaid mat mtk mtkAt mtkNumber mwaits mlisted mdealtMany)), ((ma 3), .inl (E 0, 16, .inl mf3)), ((ma 5), .inl (E 1, 6400, .inl (upd mf5 (z_22 : Int32).toNatClampNeg (vp_nar .boolean 1)))), ((ma 6), .inl (E 0, 6400, .inl (upd mf6 (z_22 : Int32).toNatClampNeg p2))), ((ma 7), .inl (E 0, 6400, .inl (upd mf7 (z_22 : Int32).toNatClampNeg p3))), ((ma 10), .inl (E 0, 6400, .inl mf10))]) [0, 1, 2, 3, 4, 5] rfl
                have hD9 := hD.sub (ws' := [(mh, .inr (9, G9 ma mcode mtoday moffs mmany msumW msumA msumR msumWW msumWA msumAA msumWR msumAR mupper mlower mrates mtaped mlaid mat mtk mtkAt mtkNumber mwaits mlisted mdealtMany)), ((ma 3), .inl (E 0, 16, .inl mf3)), ((ma 5), .inl (E 1, 6400, .inl (upd mf5 (z_22 : Int32).toNatClampNeg (vp_nar .boolean 1)))), ((ma 6), .inl (E 0, 6400, .inl (upd mf6 (z_22 : Int32).toNatClampNeg p2))), ((ma 7), .inl (E 0, 6400, .inl (upd mf7 (z_22 : Int32).toNatClampNeg p3))), ((ma 10), .inl (E 0, 6400, .inl mf10))]) [0, 1, 2, 3, 4, 5] (by decide) rfl
                exact W.iret (v := 1) hx hb hr (fun t ht hW => ⟨⟨1, ((upd mf5 (z_22 : Int32).toNatClampNeg (vp_nar .boolean 1)), (upd mf6 (z_22 : Int32).toNatClampNeg p2), (upd mf7 (z_22 : Int32).toNatClampNeg p3)), rfl, (by have hl0 := t_1; (try dsimp only); first | exact Or.inl ⟨by omega, by omega, rfl, rfl, rfl⟩ | exact Or.inr (Or.inl ⟨by omega, by omega, rfl, rfl, rfl⟩) | exact Or.inr (Or.inr (Or.inl ⟨by omega, by omega, by subst_vars; omega, by omega, rfl, rfl, rfl⟩)) | exact Or.inr (Or.inr (Or.inr ⟨by omega, by omega, by subst_vars; omega, by omega, by subst_vars; rfl, by subst_vars; rfl, by subst_vars; rfl⟩))), by rw [ht]; exact hP9, hD9⟩, hS.F ht⟩) hS.2.2 dX9_compare_116
              ·
                have ic_26 : z_25.toInt ≠ -1 := mt (g_eq rfl t_m1).mpr c_26
                clear c_26
                refine lv_bipush (v := (-4)) hx hb dX9_compare_87 (by decide) ?_
                have hP9 := hP.sub (ws' := [(mh, .inr (9, G9 ma mcode mtoday moffs mmany msumW msumA msumR msumWW msumWA msumAA msumWR msumAR mupper mlower mrates mtaped mlaid mat mtk mtkAt mtkNumber mwaits mlisted mdealtMany)), ((ma 3), .inl (E 0, 16, .inl mf3)), ((ma 5), .inl (E 1, 6400, .inl mf5)), ((ma 6), .inl (E 0, 6400, .inl mf6)), ((ma 7), .inl (E 0, 6400, .inl mf7)), ((ma 10), .inl (E 0, 6400, .inl mf10))]) [0, 1, 2, 3, 4, 5] rfl
                have hD9 := hD.sub (ws' := [(mh, .inr (9, G9 ma mcode mtoday moffs mmany msumW msumA msumR msumWW msumWA msumAA msumWR msumAR mupper mlower mrates mtaped mlaid mat mtk mtkAt mtkNumber mwaits mlisted mdealtMany)), ((ma 3), .inl (E 0, 16, .inl mf3)), ((ma 5), .inl (E 1, 6400, .inl mf5)), ((ma 6), .inl (E 0, 6400, .inl mf6)), ((ma 7), .inl (E 0, 6400, .inl mf7)), ((ma 10), .inl (E 0, 6400, .inl mf10))]) [0, 1, 2, 3, 4, 5] (by decide) rfl
                exact W.iret (v := (-4)) hx hb hr (fun t ht hW => ⟨⟨(-4), (mf5, mf6, mf7), rfl, (by have hl0 := t_m4; (try dsimp only); first | exact Or.inl ⟨by omega, by omega, rfl, rfl, rfl⟩ | exact Or.inr (Or.inl ⟨by omega, by omega, rfl, rfl, rfl⟩) | exact Or.inr (Or.inr (Or.inl ⟨by omega, by omega, by subst_vars; omega, by omega, rfl, rfl, rfl⟩)) | exact Or.inr (Or.inr (Or.inr ⟨by omega, by omega, by subst_vars; omega, by omega, by subst_vars; rfl, by subst_vars; rfl, by subst_vars; rfl⟩))), by rw [ht]; exact hP9, hD9⟩, hS.F ht⟩) hS.2.2 dX9_compare_89
          ·
            have ic_20 : r_17.toInt < 0 := by first | exact (g_lt rfl t_0).mp c_20 | (have h := mt (g_le t_0 rfl).mpr c_20; omega)
            clear c_20
            refine lv_iload hx hb dX9_compare_54 (lv_at hl 0 rfl) ?_
            have hP9 := hP.sub (ws' := [(mh, .inr (9, G9 ma mcode mtoday moffs mmany msumW msumA msumR msumWW msumWA msumAA msumWR msumAR mupper mlower mrates mtaped mlaid mat mtk mtkAt mtkNumber mwaits mlisted mdealtMany)), ((ma 3), .inl (E 0, 16, .inl mf3)), ((ma 5), .inl (E 1, 6400, .inl mf5)), ((ma 6), .inl (E 0, 6400, .inl mf6)), ((ma 7), .inl (E 0, 6400, .inl mf7)), ((ma 10), .inl (E 0, 6400, .inl mf10))]) [0, 1, 2, 3, 4, 5] rfl
            have hD9 := hD.sub (ws' := [(mh, .inr (9, G9 ma mcode mtoday moffs mmany msumW msumA msumR msumWW msumWA msumAA msumWR msumAR mupper mlower mrates mtaped mlaid mat mtk mtkAt mtkNumber mwaits mlisted mdealtMany)), ((ma 3), .inl (E 0, 16, .inl mf3)), ((ma 5), .inl (E 1, 6400, .inl mf5)), ((ma 6), .inl (E 0, 6400, .inl mf6)), ((ma 7), .inl (E 0, 6400, .inl mf7)), ((ma 10), .inl (E 0, 6400, .inl mf10))]) [0, 1, 2, 3, 4, 5] (by decide) rfl
            exact W.iret (v := r_17) hx hb hr (fun t ht hW => ⟨⟨r_17, (mf5, mf6, mf7), rfl, (by (try dsimp only); first | exact Or.inl ⟨by omega, by omega, rfl, rfl, rfl⟩ | exact Or.inr (Or.inl ⟨by omega, by omega, rfl, rfl, rfl⟩) | exact Or.inr (Or.inr (Or.inl ⟨by omega, by omega, by subst_vars; omega, by omega, rfl, rfl, rfl⟩)) | exact Or.inr (Or.inr (Or.inr ⟨by omega, by omega, by subst_vars; omega, by omega, by subst_vars; rfl, by subst_vars; rfl, by subst_vars; rfl⟩))), by rw [ht]; exact hP9, hD9⟩, hS.F ht⟩) hS.2.2 dX9_compare_56
        ·
          try simp only [t_0, t_5] at hw_14
          refine W_top (y := .int 0) (by rw [hr_13]) ?_
          refine lv_if_ne (tgt := 42) hx hb dX9_compare_37 (by decide) (fun c_27 => absurd (by decide) c_27) (fun c_27 => ?_)
          refine lv_iconst (v := (-1)) hx hb dX9_compare_40 (by decide) ?_
          have hP9 := hP.sub (ws' := [(mh, .inr (9, G9 ma mcode mtoday moffs mmany msumW msumA msumR msumWW msumWA msumAA msumWR msumAR mupper mlower mrates mtaped mlaid mat mtk mtkAt mtkNumber mwaits mlisted mdealtMany)), ((ma 3), .inl (E 0, 16, .inl mf3)), ((ma 5), .inl (E 1, 6400, .inl mf5)), ((ma 6), .inl (E 0, 6400, .inl mf6)), ((ma 7), .inl (E 0, 6400, .inl mf7)), ((ma 10), .inl (E 0, 6400, .inl mf10))]) [0, 1, 2, 3, 4, 5] rfl
          have hD9 := hD.sub (ws' := [(mh, .inr (9, G9 ma mcode mtoday moffs mmany msumW msumA msumR msumWW msumWA msumAA msumWR msumAR mupper mlower mrates mtaped mlaid mat mtk mtkAt mtkNumber mwaits mlisted mdealtMany)), ((ma 3), .inl (E 0, 16, .inl mf3)), ((ma 5), .inl (E 1, 6400, .inl mf5)), ((ma 6), .inl (E 0, 6400, .inl mf6)), ((ma 7), .inl (E 0, 6400, .inl mf7)), ((ma 10), .inl (E 0, 6400, .inl mf10))]) [0, 1, 2, 3, 4, 5] (by decide) rfl
          exact W.iret (v := (-1)) hx hb hr (fun t ht hW => ⟨⟨(-1), (mf5, mf6, mf7), rfl, (by have hl0 := t_m1; (try dsimp only); first | exact Or.inl ⟨by omega, by omega, rfl, rfl, rfl⟩ | exact Or.inr (Or.inl ⟨by omega, by omega, rfl, rfl, rfl⟩) | exact Or.inr (Or.inr (Or.inl ⟨by omega, by omega, by subst_vars; omega, by omega, rfl, rfl, rfl⟩)) | exact Or.inr (Or.inr (Or.inr ⟨by omega, by omega, by subst_vars; omega, by omega, by subst_vars; rfl, by subst_vars; rfl, by subst_vars; rfl⟩))), by rw [ht]; exact hP9, hD9⟩, hS.F ht⟩) hS.2.2 dX9_compare_41
      ·
        try simp only [t_m100000, t_100000] at hw_10
        refine W_top (y := .int 0) (by rw [hr_9]) ?_
        refine lv_if_eq (tgt := 40) hx hb dX9_compare_27 (by decide) (fun c_28 => ?_) (fun c_28 => absurd (by decide) c_28)
        refine lv_iconst (v := (-1)) hx hb dX9_compare_40 (by decide) ?_
        have hP9 := hP.sub (ws' := [(mh, .inr (9, G9 ma mcode mtoday moffs mmany msumW msumA msumR msumWW msumWA msumAA msumWR msumAR mupper mlower mrates mtaped mlaid mat mtk mtkAt mtkNumber mwaits mlisted mdealtMany)), ((ma 3), .inl (E 0, 16, .inl mf3)), ((ma 5), .inl (E 1, 6400, .inl mf5)), ((ma 6), .inl (E 0, 6400, .inl mf6)), ((ma 7), .inl (E 0, 6400, .inl mf7)), ((ma 10), .inl (E 0, 6400, .inl mf10))]) [0, 1, 2, 3, 4, 5] rfl
        have hD9 := hD.sub (ws' := [(mh, .inr (9, G9 ma mcode mtoday moffs mmany msumW msumA msumR msumWW msumWA msumAA msumWR msumAR mupper mlower mrates mtaped mlaid mat mtk mtkAt mtkNumber mwaits mlisted mdealtMany)), ((ma 3), .inl (E 0, 16, .inl mf3)), ((ma 5), .inl (E 1, 6400, .inl mf5)), ((ma 6), .inl (E 0, 6400, .inl mf6)), ((ma 7), .inl (E 0, 6400, .inl mf7)), ((ma 10), .inl (E 0, 6400, .inl mf10))]) [0, 1, 2, 3, 4, 5] (by decide) rfl
        exact W.iret (v := (-1)) hx hb hr (fun t ht hW => ⟨⟨(-1), (mf5, mf6, mf7), rfl, (by have hl0 := t_m1; (try dsimp only); first | exact Or.inl ⟨by omega, by omega, rfl, rfl, rfl⟩ | exact Or.inr (Or.inl ⟨by omega, by omega, rfl, rfl, rfl⟩) | exact Or.inr (Or.inr (Or.inl ⟨by omega, by omega, by subst_vars; omega, by omega, rfl, rfl, rfl⟩)) | exact Or.inr (Or.inr (Or.inr ⟨by omega, by omega, by subst_vars; omega, by omega, by subst_vars; rfl, by subst_vars; rfl, by subst_vars; rfl⟩))), by rw [ht]; exact hP9, hD9⟩, hS.F ht⟩) hS.2.2 dX9_compare_41
    ·
      try simp only [t_0] at hw_6
      refine W_top (y := .int 0) (by rw [hr_5]) ?_
      refine lv_if_eq (tgt := 40) hx hb dX9_compare_16 (by decide) (fun c_29 => ?_) (fun c_29 => absurd (by decide) c_29)
      refine lv_iconst (v := (-1)) hx hb dX9_compare_40 (by decide) ?_
      have hP9 := hP.sub (ws' := [(mh, .inr (9, G9 ma mcode mtoday moffs mmany msumW msumA msumR msumWW msumWA msumAA msumWR msumAR mupper mlower mrates mtaped mlaid mat mtk mtkAt mtkNumber mwaits mlisted mdealtMany)), ((ma 3), .inl (E 0, 16, .inl mf3)), ((ma 5), .inl (E 1, 6400, .inl mf5)), ((ma 6), .inl (E 0, 6400, .inl mf6)), ((ma 7), .inl (E 0, 6400, .inl mf7)), ((ma 10), .inl (E 0, 6400, .inl mf10))]) [0, 1, 2, 3, 4, 5] rfl
      have hD9 := hD.sub (ws' := [(mh, .inr (9, G9 ma mcode mtoday moffs mmany msumW msumA msumR msumWW msumWA msumAA msumWR msumAR mupper mlower mrates mtaped mlaid mat mtk mtkAt mtkNumber mwaits mlisted mdealtMany)), ((ma 3), .inl (E 0, 16, .inl mf3)), ((ma 5), .inl (E 1, 6400, .inl mf5)), ((ma 6), .inl (E 0, 6400, .inl mf6)), ((ma 7), .inl (E 0, 6400, .inl mf7)), ((ma 10), .inl (E 0, 6400, .inl mf10))]) [0, 1, 2, 3, 4, 5] (by decide) rfl
      exact W.iret (v := (-1)) hx hb hr (fun t ht hW => ⟨⟨(-1), (mf5, mf6, mf7), rfl, (by have hl0 := t_m1; (try dsimp only); first | exact Or.inl ⟨by omega, by omega, rfl, rfl, rfl⟩ | exact Or.inr (Or.inl ⟨by omega, by omega, rfl, rfl, rfl⟩) | exact Or.inr (Or.inr (Or.inl ⟨by omega, by omega, by subst_vars; omega, by omega, rfl, rfl, rfl⟩)) | exact Or.inr (Or.inr (Or.inr ⟨by omega, by omega, by subst_vars; omega, by omega, by subst_vars; rfl, by subst_vars; rfl, by subst_vars; rfl⟩))), by rw [ht]; exact hP9, hD9⟩, hS.F ht⟩) hS.2.2 dX9_compare_41
  ·
    refine W_top (y := .int 0) (by rw [hr_1]) ?_
    refine lv_if_eq (tgt := 40) hx hb dX9_compare_4 (by decide) (fun c_30 => ?_) (fun c_30 => absurd (by decide) c_30)
    refine lv_iconst (v := (-1)) hx hb dX9_compare_40 (by decide) ?_
    have hP9 := hP.sub (ws' := [(mh, .inr (9, G9 ma mcode mtoday moffs mmany msumW msumA msumR msumWW msumWA msumAA msumWR msumAR mupper mlower mrates mtaped mlaid mat mtk mtkAt mtkNumber mwaits mlisted mdealtMany)), ((ma 3), .inl (E 0, 16, .inl mf3)), ((ma 5), .inl (E 1, 6400, .inl mf5)), ((ma 6), .inl (E 0, 6400, .inl mf6)), ((ma 7), .inl (E 0, 6400, .inl mf7)), ((ma 10), .inl (E 0, 6400, .inl mf10))]) [0, 1, 2, 3, 4, 5] rfl
    have hD9 := hD.sub (ws' := [(mh, .inr (9, G9 ma mcode mtoday moffs mmany msumW msumA msumR msumWW msumWA msumAA msumWR msumAR mupper mlower mrates mtaped mlaid mat mtk mtkAt mtkNumber mwaits mlisted mdealtMany)), ((ma 3), .inl (E 0, 16, .inl mf3)), ((ma 5), .inl (E 1, 6400, .inl mf5)), ((ma 6), .inl (E 0, 6400, .inl mf6)), ((ma 7), .inl (E 0, 6400, .inl mf7)), ((ma 10), .inl (E 0, 6400, .inl mf10))]) [0, 1, 2, 3, 4, 5] (by decide) rfl
    exact W.iret (v := (-1)) hx hb hr (fun t ht hW => ⟨⟨(-1), (mf5, mf6, mf7), rfl, (by have hl0 := t_m1; (try dsimp only); first | exact Or.inl ⟨by omega, by omega, rfl, rfl, rfl⟩ | exact Or.inr (Or.inl ⟨by omega, by omega, rfl, rfl, rfl⟩) | exact Or.inr (Or.inr (Or.inl ⟨by omega, by omega, by subst_vars; omega, by omega, rfl, rfl, rfl⟩)) | exact Or.inr (Or.inr (Or.inr ⟨by omega, by omega, by subst_vars; omega, by omega, by subst_vars; rfl, by subst_vars; rfl, by subst_vars; rfl⟩))), by rw [ht]; exact hP9, hD9⟩, hS.F ht⟩) hS.2.2 dX9_compare_41
end
