theorem dX5_addSight_0 : decode cX5_addSight 0 = .ok (.aload_n 0, 1) := by decide +kernel
theorem dX5_addSight_1 : decode cX5_addSight 1 = .ok (.getfield 33, 3) := by decide +kernel
theorem dX5_addSight_4 : decode cX5_addSight 4 = .ok (.bipush 40, 2) := by decide +kernel
theorem dX5_addSight_6 : decode cX5_addSight 6 = .ok (.if_icmp .lt 6, 3) := by decide +kernel
theorem dX5_addSight_9 : decode cX5_addSight 9 = .ok (.bipush (-5), 2) := by decide +kernel
theorem dX5_addSight_11 : decode cX5_addSight 11 = .ok (.ireturn, 1) := by decide +kernel
theorem dX5_addSight_12 : decode cX5_addSight 12 = .ok (.aload_n 0, 1) := by decide +kernel
theorem dX5_addSight_13 : decode cX5_addSight 13 = .ok (.getfield 27, 3) := by decide +kernel
theorem dX5_addSight_16 : decode cX5_addSight 16 = .ok (.aload_n 0, 1) := by decide +kernel
theorem dX5_addSight_17 : decode cX5_addSight 17 = .ok (.getfield 33, 3) := by decide +kernel
theorem dX5_addSight_20 : decode cX5_addSight 20 = .ok (.iload_n 1, 1) := by decide +kernel
theorem dX5_addSight_21 : decode cX5_addSight 21 = .ok (.iastore, 1) := by decide +kernel
theorem dX5_addSight_22 : decode cX5_addSight 22 = .ok (.aload_n 0, 1) := by decide +kernel
theorem dX5_addSight_23 : decode cX5_addSight 23 = .ok (.getfield 30, 3) := by decide +kernel
theorem dX5_addSight_26 : decode cX5_addSight 26 = .ok (.iconst 3, 1) := by decide +kernel
theorem dX5_addSight_27 : decode cX5_addSight 27 = .ok (.aload_n 0, 1) := by decide +kernel
theorem dX5_addSight_28 : decode cX5_addSight 28 = .ok (.getfield 33, 3) := by decide +kernel
theorem dX5_addSight_31 : decode cX5_addSight 31 = .ok (.imul, 1) := by decide +kernel
theorem dX5_addSight_32 : decode cX5_addSight 32 = .ok (.iload_n 2, 1) := by decide +kernel
theorem dX5_addSight_33 : decode cX5_addSight 33 = .ok (.iastore, 1) := by decide +kernel
theorem dX5_addSight_34 : decode cX5_addSight 34 = .ok (.aload_n 0, 1) := by decide +kernel
theorem dX5_addSight_35 : decode cX5_addSight 35 = .ok (.getfield 30, 3) := by decide +kernel
theorem dX5_addSight_38 : decode cX5_addSight 38 = .ok (.iconst 3, 1) := by decide +kernel
theorem dX5_addSight_39 : decode cX5_addSight 39 = .ok (.aload_n 0, 1) := by decide +kernel
theorem dX5_addSight_40 : decode cX5_addSight 40 = .ok (.getfield 33, 3) := by decide +kernel
theorem dX5_addSight_43 : decode cX5_addSight 43 = .ok (.imul, 1) := by decide +kernel
theorem dX5_addSight_44 : decode cX5_addSight 44 = .ok (.iconst 1, 1) := by decide +kernel
theorem dX5_addSight_45 : decode cX5_addSight 45 = .ok (.iadd, 1) := by decide +kernel
theorem dX5_addSight_46 : decode cX5_addSight 46 = .ok (.iload_n 3, 1) := by decide +kernel
theorem dX5_addSight_47 : decode cX5_addSight 47 = .ok (.iastore, 1) := by decide +kernel
theorem dX5_addSight_48 : decode cX5_addSight 48 = .ok (.aload_n 0, 1) := by decide +kernel
theorem dX5_addSight_49 : decode cX5_addSight 49 = .ok (.getfield 30, 3) := by decide +kernel
theorem dX5_addSight_52 : decode cX5_addSight 52 = .ok (.iconst 3, 1) := by decide +kernel
theorem dX5_addSight_53 : decode cX5_addSight 53 = .ok (.aload_n 0, 1) := by decide +kernel
theorem dX5_addSight_54 : decode cX5_addSight 54 = .ok (.getfield 33, 3) := by decide +kernel
theorem dX5_addSight_57 : decode cX5_addSight 57 = .ok (.imul, 1) := by decide +kernel
theorem dX5_addSight_58 : decode cX5_addSight 58 = .ok (.iconst 2, 1) := by decide +kernel
theorem dX5_addSight_59 : decode cX5_addSight 59 = .ok (.iadd, 1) := by decide +kernel
theorem dX5_addSight_60 : decode cX5_addSight 60 = .ok (.iload 4, 2) := by decide +kernel
theorem dX5_addSight_62 : decode cX5_addSight 62 = .ok (.iastore, 1) := by decide +kernel
theorem dX5_addSight_63 : decode cX5_addSight 63 = .ok (.aload_n 0, 1) := by decide +kernel
theorem dX5_addSight_64 : decode cX5_addSight 64 = .ok (.dup, 1) := by decide +kernel
theorem dX5_addSight_65 : decode cX5_addSight 65 = .ok (.getfield 33, 3) := by decide +kernel
theorem dX5_addSight_68 : decode cX5_addSight 68 = .ok (.iconst 1, 1) := by decide +kernel
theorem dX5_addSight_69 : decode cX5_addSight 69 = .ok (.iadd, 1) := by decide +kernel
theorem dX5_addSight_70 : decode cX5_addSight 70 = .ok (.putfield 33, 3) := by decide +kernel
theorem dX5_addSight_73 : decode cX5_addSight 73 = .ok (.aload_n 0, 1) := by decide +kernel
theorem dX5_addSight_74 : decode cX5_addSight 74 = .ok (.getfield 33, 3) := by decide +kernel
theorem dX5_addSight_77 : decode cX5_addSight 77 = .ok (.iconst 1, 1) := by decide +kernel
theorem dX5_addSight_78 : decode cX5_addSight 78 = .ok (.isub, 1) := by decide +kernel
theorem dX5_addSight_79 : decode cX5_addSight 79 = .ok (.ireturn, 1) := by decide +kernel
theorem dX5_beginOf_0 : decode cX5_beginOf 0 = .ok (.ldc 69, 2) := by decide +kernel
theorem dX5_beginOf_2 : decode cX5_beginOf 2 = .ok (.istore_n 3, 1) := by decide +kernel
theorem dX5_beginOf_3 : decode cX5_beginOf 3 = .ok (.iconst 0, 1) := by decide +kernel
theorem dX5_beginOf_4 : decode cX5_beginOf 4 = .ok (.istore 4, 2) := by decide +kernel
theorem dX5_beginOf_6 : decode cX5_beginOf 6 = .ok (.iload 4, 2) := by decide +kernel
theorem dX5_beginOf_8 : decode cX5_beginOf 8 = .ok (.iconst 3, 1) := by decide +kernel
theorem dX5_beginOf_9 : decode cX5_beginOf 9 = .ok (.if_icmp .ge 35, 3) := by decide +kernel
theorem dX5_beginOf_12 : decode cX5_beginOf 12 = .ok (.iload 4, 2) := by decide +kernel
theorem dX5_beginOf_14 : decode cX5_beginOf 14 = .ok (.iload_n 2, 1) := by decide +kernel
theorem dX5_beginOf_15 : decode cX5_beginOf 15 = .ok (.if_icmp .eq 23, 3) := by decide +kernel
theorem dX5_beginOf_18 : decode cX5_beginOf 18 = .ok (.iload_n 3, 1) := by decide +kernel
theorem dX5_beginOf_19 : decode cX5_beginOf 19 = .ok (.aload_n 0, 1) := by decide +kernel
theorem dX5_beginOf_20 : decode cX5_beginOf 20 = .ok (.iload_n 1, 1) := by decide +kernel
theorem dX5_beginOf_21 : decode cX5_beginOf 21 = .ok (.iload 4, 2) := by decide +kernel
theorem dX5_beginOf_23 : decode cX5_beginOf 23 = .ok (.invokevirtual 63, 3) := by decide +kernel
theorem dX5_beginOf_26 : decode cX5_beginOf 26 = .ok (.aload_n 0, 1) := by decide +kernel
theorem dX5_beginOf_27 : decode cX5_beginOf 27 = .ok (.iload_n 1, 1) := by decide +kernel
theorem dX5_beginOf_28 : decode cX5_beginOf 28 = .ok (.iload 4, 2) := by decide +kernel
theorem dX5_beginOf_30 : decode cX5_beginOf 30 = .ok (.invokevirtual 70, 3) := by decide +kernel
theorem dX5_beginOf_33 : decode cX5_beginOf 33 = .ok (.isub, 1) := by decide +kernel
theorem dX5_beginOf_34 : decode cX5_beginOf 34 = .ok (.invokestatic 73, 3) := by decide +kernel
theorem dX5_beginOf_37 : decode cX5_beginOf 37 = .ok (.istore_n 3, 1) := by decide +kernel
theorem dX5_beginOf_38 : decode cX5_beginOf 38 = .ok (.iinc 4 1, 3) := by decide +kernel
theorem dX5_beginOf_41 : decode cX5_beginOf 41 = .ok (.goto (-35), 3) := by decide +kernel
theorem dX5_beginOf_44 : decode cX5_beginOf 44 = .ok (.iload_n 3, 1) := by decide +kernel
theorem dX5_beginOf_45 : decode cX5_beginOf 45 = .ok (.ireturn, 1) := by decide +kernel
theorem dX5_carry_0 : decode cX5_carry 0 = .ok (.iload_n 1, 1) := by decide +kernel
theorem dX5_carry_1 : decode cX5_carry 1 = .ok (.ifCond .lt 8, 3) := by decide +kernel
theorem dX5_carry_4 : decode cX5_carry 4 = .ok (.iload_n 1, 1) := by decide +kernel
theorem dX5_carry_5 : decode cX5_carry 5 = .ok (.iconst 3, 1) := by decide +kernel
theorem dX5_carry_6 : decode cX5_carry 6 = .ok (.if_icmp .lt 4, 3) := by decide +kernel
theorem dX5_carry_9 : decode cX5_carry 9 = .ok (.return_, 1) := by decide +kernel
theorem dX5_carry_10 : decode cX5_carry 10 = .ok (.aload_n 0, 1) := by decide +kernel
theorem dX5_carry_11 : decode cX5_carry 11 = .ok (.getfield 9, 3) := by decide +kernel
theorem dX5_carry_14 : decode cX5_carry 14 = .ok (.iload_n 1, 1) := by decide +kernel
theorem dX5_carry_15 : decode cX5_carry 15 = .ok (.iload_n 2, 1) := by decide +kernel
theorem dX5_carry_16 : decode cX5_carry 16 = .ok (.iastore, 1) := by decide +kernel
theorem dX5_carry_17 : decode cX5_carry 17 = .ok (.aload_n 0, 1) := by decide +kernel
theorem dX5_carry_18 : decode cX5_carry 18 = .ok (.getfield 15, 3) := by decide +kernel
theorem dX5_carry_21 : decode cX5_carry 21 = .ok (.iload_n 1, 1) := by decide +kernel
theorem dX5_carry_22 : decode cX5_carry 22 = .ok (.iload_n 3, 1) := by decide +kernel
theorem dX5_carry_23 : decode cX5_carry 23 = .ok (.iastore, 1) := by decide +kernel
theorem dX5_carry_24 : decode cX5_carry 24 = .ok (.aload_n 0, 1) := by decide +kernel
theorem dX5_carry_25 : decode cX5_carry 25 = .ok (.getfield 18, 3) := by decide +kernel
theorem dX5_carry_28 : decode cX5_carry 28 = .ok (.iload_n 1, 1) := by decide +kernel
theorem dX5_carry_29 : decode cX5_carry 29 = .ok (.iload 4, 2) := by decide +kernel
theorem dX5_carry_31 : decode cX5_carry 31 = .ok (.iastore, 1) := by decide +kernel
theorem dX5_carry_32 : decode cX5_carry 32 = .ok (.aload_n 0, 1) := by decide +kernel
theorem dX5_carry_33 : decode cX5_carry 33 = .ok (.getfield 21, 3) := by decide +kernel
theorem dX5_carry_36 : decode cX5_carry 36 = .ok (.iload_n 1, 1) := by decide +kernel
theorem dX5_carry_37 : decode cX5_carry 37 = .ok (.iload 5, 2) := by decide +kernel
theorem dX5_carry_39 : decode cX5_carry 39 = .ok (.iastore, 1) := by decide +kernel
theorem dX5_carry_40 : decode cX5_carry 40 = .ok (.return_, 1) := by decide +kernel
theorem dX5_comeBack_0 : decode cX5_comeBack 0 = .ok (.aload_n 0, 1) := by decide +kernel
theorem dX5_comeBack_1 : decode cX5_comeBack 1 = .ok (.iconst 2, 1) := by decide +kernel
theorem dX5_comeBack_2 : decode cX5_comeBack 2 = .ok (.putfield 37, 3) := by decide +kernel
theorem dX5_comeBack_5 : decode cX5_comeBack 5 = .ok (.aload_n 0, 1) := by decide +kernel
theorem dX5_comeBack_6 : decode cX5_comeBack 6 = .ok (.iload_n 1, 1) := by decide +kernel
theorem dX5_comeBack_7 : decode cX5_comeBack 7 = .ok (.aload_n 0, 1) := by decide +kernel
theorem dX5_comeBack_8 : decode cX5_comeBack 8 = .ok (.getfield 40, 3) := by decide +kernel
theorem dX5_comeBack_11 : decode cX5_comeBack 11 = .ok (.isub, 1) := by decide +kernel
theorem dX5_comeBack_12 : decode cX5_comeBack 12 = .ok (.putfield 43, 3) := by decide +kernel
theorem dX5_comeBack_15 : decode cX5_comeBack 15 = .ok (.return_, 1) := by decide +kernel
theorem dX5_daysSince_0 : decode cX5_daysSince 0 = .ok (.aload_n 0, 1) := by decide +kernel
theorem dX5_daysSince_1 : decode cX5_daysSince 1 = .ok (.iload_n 1, 1) := by decide +kernel
theorem dX5_daysSince_2 : decode cX5_daysSince 2 = .ok (.iconst 0, 1) := by decide +kernel
theorem dX5_daysSince_3 : decode cX5_daysSince 3 = .ok (.invokevirtual 46, 3) := by decide +kernel
theorem dX5_daysSince_6 : decode cX5_daysSince 6 = .ok (.ifCond .eq 17, 3) := by decide +kernel
theorem dX5_daysSince_9 : decode cX5_daysSince 9 = .ok (.aload_n 0, 1) := by decide +kernel
theorem dX5_daysSince_10 : decode cX5_daysSince 10 = .ok (.getfield 27, 3) := by decide +kernel
theorem dX5_daysSince_13 : decode cX5_daysSince 13 = .ok (.iload_n 1, 1) := by decide +kernel
theorem dX5_daysSince_14 : decode cX5_daysSince 14 = .ok (.iaload, 1) := by decide +kernel
theorem dX5_daysSince_15 : decode cX5_daysSince 15 = .ok (.aload_n 0, 1) := by decide +kernel
theorem dX5_daysSince_16 : decode cX5_daysSince 16 = .ok (.getfield 40, 3) := by decide +kernel
theorem dX5_daysSince_19 : decode cX5_daysSince 19 = .ok (.isub, 1) := by decide +kernel
theorem dX5_daysSince_20 : decode cX5_daysSince 20 = .ok (.goto 4, 3) := by decide +kernel
theorem dX5_daysSince_23 : decode cX5_daysSince 23 = .ok (.iconst 0, 1) := by decide +kernel
theorem dX5_daysSince_24 : decode cX5_daysSince 24 = .ok (.ireturn, 1) := by decide +kernel
theorem dX5_endOf_0 : decode cX5_endOf 0 = .ok (.ldc 76, 2) := by decide +kernel
theorem dX5_endOf_2 : decode cX5_endOf 2 = .ok (.istore_n 3, 1) := by decide +kernel
theorem dX5_endOf_3 : decode cX5_endOf 3 = .ok (.iconst 0, 1) := by decide +kernel
theorem dX5_endOf_4 : decode cX5_endOf 4 = .ok (.istore 4, 2) := by decide +kernel
theorem dX5_endOf_6 : decode cX5_endOf 6 = .ok (.iload 4, 2) := by decide +kernel
theorem dX5_endOf_8 : decode cX5_endOf 8 = .ok (.iconst 3, 1) := by decide +kernel
theorem dX5_endOf_9 : decode cX5_endOf 9 = .ok (.if_icmp .ge 35, 3) := by decide +kernel
theorem dX5_endOf_12 : decode cX5_endOf 12 = .ok (.iload 4, 2) := by decide +kernel
theorem dX5_endOf_14 : decode cX5_endOf 14 = .ok (.iload_n 2, 1) := by decide +kernel
theorem dX5_endOf_15 : decode cX5_endOf 15 = .ok (.if_icmp .eq 23, 3) := by decide +kernel
theorem dX5_endOf_18 : decode cX5_endOf 18 = .ok (.iload_n 3, 1) := by decide +kernel
theorem dX5_endOf_19 : decode cX5_endOf 19 = .ok (.aload_n 0, 1) := by decide +kernel
theorem dX5_endOf_20 : decode cX5_endOf 20 = .ok (.iload_n 1, 1) := by decide +kernel
theorem dX5_endOf_21 : decode cX5_endOf 21 = .ok (.iload 4, 2) := by decide +kernel
theorem dX5_endOf_23 : decode cX5_endOf 23 = .ok (.invokevirtual 63, 3) := by decide +kernel
theorem dX5_endOf_26 : decode cX5_endOf 26 = .ok (.aload_n 0, 1) := by decide +kernel
theorem dX5_endOf_27 : decode cX5_endOf 27 = .ok (.iload_n 1, 1) := by decide +kernel
theorem dX5_endOf_28 : decode cX5_endOf 28 = .ok (.iload 4, 2) := by decide +kernel
theorem dX5_endOf_30 : decode cX5_endOf 30 = .ok (.invokevirtual 70, 3) := by decide +kernel
theorem dX5_endOf_33 : decode cX5_endOf 33 = .ok (.iadd, 1) := by decide +kernel
theorem dX5_endOf_34 : decode cX5_endOf 34 = .ok (.invokestatic 60, 3) := by decide +kernel
theorem dX5_endOf_37 : decode cX5_endOf 37 = .ok (.istore_n 3, 1) := by decide +kernel
theorem dX5_endOf_38 : decode cX5_endOf 38 = .ok (.iinc 4 1, 3) := by decide +kernel
theorem dX5_endOf_41 : decode cX5_endOf 41 = .ok (.goto (-35), 3) := by decide +kernel
theorem dX5_endOf_44 : decode cX5_endOf 44 = .ok (.iload_n 3, 1) := by decide +kernel
theorem dX5_endOf_45 : decode cX5_endOf 45 = .ok (.ireturn, 1) := by decide +kernel
theorem dX5_isOf_0 : decode cX5_isOf 0 = .ok (.iload_n 1, 1) := by decide +kernel
theorem dX5_isOf_1 : decode cX5_isOf 1 = .ok (.ifCond .lt 24, 3) := by decide +kernel
theorem dX5_isOf_4 : decode cX5_isOf 4 = .ok (.iload_n 1, 1) := by decide +kernel
theorem dX5_isOf_5 : decode cX5_isOf 5 = .ok (.aload_n 0, 1) := by decide +kernel
theorem dX5_isOf_6 : decode cX5_isOf 6 = .ok (.getfield 33, 3) := by decide +kernel
theorem dX5_isOf_9 : decode cX5_isOf 9 = .ok (.if_icmp .ge 16, 3) := by decide +kernel
theorem dX5_isOf_12 : decode cX5_isOf 12 = .ok (.iload_n 2, 1) := by decide +kernel
theorem dX5_isOf_13 : decode cX5_isOf 13 = .ok (.ifCond .lt 12, 3) := by decide +kernel
theorem dX5_isOf_16 : decode cX5_isOf 16 = .ok (.iload_n 2, 1) := by decide +kernel
theorem dX5_isOf_17 : decode cX5_isOf 17 = .ok (.iconst 3, 1) := by decide +kernel
theorem dX5_isOf_18 : decode cX5_isOf 18 = .ok (.if_icmp .ge 7, 3) := by decide +kernel
theorem dX5_isOf_21 : decode cX5_isOf 21 = .ok (.iconst 1, 1) := by decide +kernel
theorem dX5_isOf_22 : decode cX5_isOf 22 = .ok (.goto 4, 3) := by decide +kernel
theorem dX5_isOf_25 : decode cX5_isOf 25 = .ok (.iconst 0, 1) := by decide +kernel
theorem dX5_isOf_26 : decode cX5_isOf 26 = .ok (.ireturn, 1) := by decide +kernel
theorem dX5_leave_0 : decode cX5_leave 0 = .ok (.aload_n 0, 1) := by decide +kernel
theorem dX5_leave_1 : decode cX5_leave 1 = .ok (.iconst 1, 1) := by decide +kernel
theorem dX5_leave_2 : decode cX5_leave 2 = .ok (.putfield 37, 3) := by decide +kernel
theorem dX5_leave_5 : decode cX5_leave 5 = .ok (.aload_n 0, 1) := by decide +kernel
theorem dX5_leave_6 : decode cX5_leave 6 = .ok (.iload_n 1, 1) := by decide +kernel
theorem dX5_leave_7 : decode cX5_leave 7 = .ok (.putfield 40, 3) := by decide +kernel
theorem dX5_leave_10 : decode cX5_leave 10 = .ok (.aload_n 0, 1) := by decide +kernel
theorem dX5_leave_11 : decode cX5_leave 11 = .ok (.iconst 0, 1) := by decide +kernel
theorem dX5_leave_12 : decode cX5_leave 12 = .ok (.putfield 33, 3) := by decide +kernel
theorem dX5_leave_15 : decode cX5_leave 15 = .ok (.return_, 1) := by decide +kernel
theorem dX5_mayBeSighted_0 : decode cX5_mayBeSighted 0 = .ok (.aload_n 0, 1) := by decide +kernel
theorem dX5_mayBeSighted_1 : decode cX5_mayBeSighted 1 = .ok (.getfield 37, 3) := by decide +kernel
theorem dX5_mayBeSighted_4 : decode cX5_mayBeSighted 4 = .ok (.ifCond .ne 5, 3) := by decide +kernel
theorem dX5_mayBeSighted_7 : decode cX5_mayBeSighted 7 = .ok (.iconst 1, 1) := by decide +kernel
theorem dX5_mayBeSighted_8 : decode cX5_mayBeSighted 8 = .ok (.ireturn, 1) := by decide +kernel
theorem dX5_mayBeSighted_9 : decode cX5_mayBeSighted 9 = .ok (.iload_n 1, 1) := by decide +kernel
theorem dX5_mayBeSighted_10 : decode cX5_mayBeSighted 10 = .ok (.aload_n 0, 1) := by decide +kernel
theorem dX5_mayBeSighted_11 : decode cX5_mayBeSighted 11 = .ok (.getfield 40, 3) := by decide +kernel
theorem dX5_mayBeSighted_14 : decode cX5_mayBeSighted 14 = .ok (.if_icmp .le 29, 3) := by decide +kernel
theorem dX5_mayBeSighted_17 : decode cX5_mayBeSighted 17 = .ok (.aload_n 0, 1) := by decide +kernel
theorem dX5_mayBeSighted_18 : decode cX5_mayBeSighted 18 = .ok (.getfield 33, 3) := by decide +kernel
theorem dX5_mayBeSighted_21 : decode cX5_mayBeSighted 21 = .ok (.ifCond .eq 18, 3) := by decide +kernel
theorem dX5_mayBeSighted_24 : decode cX5_mayBeSighted 24 = .ok (.iload_n 1, 1) := by decide +kernel
theorem dX5_mayBeSighted_25 : decode cX5_mayBeSighted 25 = .ok (.aload_n 0, 1) := by decide +kernel
theorem dX5_mayBeSighted_26 : decode cX5_mayBeSighted 26 = .ok (.getfield 27, 3) := by decide +kernel
theorem dX5_mayBeSighted_29 : decode cX5_mayBeSighted 29 = .ok (.aload_n 0, 1) := by decide +kernel
theorem dX5_mayBeSighted_30 : decode cX5_mayBeSighted 30 = .ok (.getfield 33, 3) := by decide +kernel
theorem dX5_mayBeSighted_33 : decode cX5_mayBeSighted 33 = .ok (.iconst 1, 1) := by decide +kernel
theorem dX5_mayBeSighted_34 : decode cX5_mayBeSighted 34 = .ok (.isub, 1) := by decide +kernel
theorem dX5_mayBeSighted_35 : decode cX5_mayBeSighted 35 = .ok (.iaload, 1) := by decide +kernel
theorem dX5_mayBeSighted_36 : decode cX5_mayBeSighted 36 = .ok (.if_icmp .lt 7, 3) := by decide +kernel
theorem dX5_mayBeSighted_39 : decode cX5_mayBeSighted 39 = .ok (.iconst 1, 1) := by decide +kernel
theorem dX5_mayBeSighted_40 : decode cX5_mayBeSighted 40 = .ok (.goto 4, 3) := by decide +kernel
theorem dX5_mayBeSighted_43 : decode cX5_mayBeSighted 43 = .ok (.iconst 0, 1) := by decide +kernel
theorem dX5_mayBeSighted_44 : decode cX5_mayBeSighted 44 = .ok (.ireturn, 1) := by decide +kernel
theorem dX5_offFromOthers_0 : decode cX5_offFromOthers 0 = .ok (.aload_n 0, 1) := by decide +kernel
theorem dX5_offFromOthers_1 : decode cX5_offFromOthers 1 = .ok (.iload_n 1, 1) := by decide +kernel
theorem dX5_offFromOthers_2 : decode cX5_offFromOthers 2 = .ok (.iload_n 2, 1) := by decide +kernel
theorem dX5_offFromOthers_3 : decode cX5_offFromOthers 3 = .ok (.iconst 1, 1) := by decide +kernel
theorem dX5_offFromOthers_4 : decode cX5_offFromOthers 4 = .ok (.iadd, 1) := by decide +kernel
theorem dX5_offFromOthers_5 : decode cX5_offFromOthers 5 = .ok (.iconst 3, 1) := by decide +kernel
theorem dX5_offFromOthers_6 : decode cX5_offFromOthers 6 = .ok (.irem, 1) := by decide +kernel
theorem dX5_offFromOthers_7 : decode cX5_offFromOthers 7 = .ok (.invokevirtual 63, 3) := by decide +kernel
theorem dX5_offFromOthers_10 : decode cX5_offFromOthers 10 = .ok (.aload_n 0, 1) := by decide +kernel
theorem dX5_offFromOthers_11 : decode cX5_offFromOthers 11 = .ok (.iload_n 1, 1) := by decide +kernel
theorem dX5_offFromOthers_12 : decode cX5_offFromOthers 12 = .ok (.iload_n 2, 1) := by decide +kernel
theorem dX5_offFromOthers_13 : decode cX5_offFromOthers 13 = .ok (.iconst 2, 1) := by decide +kernel
theorem dX5_offFromOthers_14 : decode cX5_offFromOthers 14 = .ok (.iadd, 1) := by decide +kernel
theorem dX5_offFromOthers_15 : decode cX5_offFromOthers 15 = .ok (.iconst 3, 1) := by decide +kernel
theorem dX5_offFromOthers_16 : decode cX5_offFromOthers 16 = .ok (.irem, 1) := by decide +kernel
theorem dX5_offFromOthers_17 : decode cX5_offFromOthers 17 = .ok (.invokevirtual 63, 3) := by decide +kernel
theorem dX5_offFromOthers_20 : decode cX5_offFromOthers 20 = .ok (.iadd, 1) := by decide +kernel
theorem dX5_offFromOthers_21 : decode cX5_offFromOthers 21 = .ok (.istore_n 3, 1) := by decide +kernel
theorem dX5_offFromOthers_22 : decode cX5_offFromOthers 22 = .ok (.aload_n 0, 1) := by decide +kernel
theorem dX5_offFromOthers_23 : decode cX5_offFromOthers 23 = .ok (.iload_n 1, 1) := by decide +kernel
theorem dX5_offFromOthers_24 : decode cX5_offFromOthers 24 = .ok (.iload_n 2, 1) := by decide +kernel
theorem dX5_offFromOthers_25 : decode cX5_offFromOthers 25 = .ok (.invokevirtual 63, 3) := by decide +kernel
theorem dX5_offFromOthers_28 : decode cX5_offFromOthers 28 = .ok (.iload_n 3, 1) := by decide +kernel
theorem dX5_offFromOthers_29 : decode cX5_offFromOthers 29 = .ok (.iconst 2, 1) := by decide +kernel
theorem dX5_offFromOthers_30 : decode cX5_offFromOthers 30 = .ok (.invokestatic 54, 3) := by decide +kernel
theorem dX5_offFromOthers_33 : decode cX5_offFromOthers 33 = .ok (.isub, 1) := by decide +kernel
theorem dX5_offFromOthers_34 : decode cX5_offFromOthers 34 = .ok (.invokestatic 66, 3) := by decide +kernel
theorem dX5_offFromOthers_37 : decode cX5_offFromOthers 37 = .ok (.ireturn, 1) := by decide +kernel
theorem dX5_timeOf_0 : decode cX5_timeOf 0 = .ok (.aload_n 0, 1) := by decide +kernel
theorem dX5_timeOf_1 : decode cX5_timeOf 1 = .ok (.iload_n 1, 1) := by decide +kernel
theorem dX5_timeOf_2 : decode cX5_timeOf 2 = .ok (.iload_n 2, 1) := by decide +kernel
theorem dX5_timeOf_3 : decode cX5_timeOf 3 = .ok (.invokevirtual 46, 3) := by decide +kernel
theorem dX5_timeOf_6 : decode cX5_timeOf 6 = .ok (.ifCond .ne 5, 3) := by decide +kernel
theorem dX5_timeOf_9 : decode cX5_timeOf 9 = .ok (.iconst 0, 1) := by decide +kernel
theorem dX5_timeOf_10 : decode cX5_timeOf 10 = .ok (.ireturn, 1) := by decide +kernel
theorem dX5_timeOf_11 : decode cX5_timeOf 11 = .ok (.aload_n 0, 1) := by decide +kernel
theorem dX5_timeOf_12 : decode cX5_timeOf 12 = .ok (.iload_n 1, 1) := by decide +kernel
theorem dX5_timeOf_13 : decode cX5_timeOf 13 = .ok (.invokevirtual 50, 3) := by decide +kernel
theorem dX5_timeOf_16 : decode cX5_timeOf 16 = .ok (.istore_n 3, 1) := by decide +kernel
theorem dX5_timeOf_17 : decode cX5_timeOf 17 = .ok (.aload_n 0, 1) := by decide +kernel
theorem dX5_timeOf_18 : decode cX5_timeOf 18 = .ok (.getfield 18, 3) := by decide +kernel
theorem dX5_timeOf_21 : decode cX5_timeOf 21 = .ok (.iload_n 2, 1) := by decide +kernel
theorem dX5_timeOf_22 : decode cX5_timeOf 22 = .ok (.iaload, 1) := by decide +kernel
theorem dX5_timeOf_23 : decode cX5_timeOf 23 = .ok (.iload_n 3, 1) := by decide +kernel
theorem dX5_timeOf_24 : decode cX5_timeOf 24 = .ok (.imul, 1) := by decide +kernel
theorem dX5_timeOf_25 : decode cX5_timeOf 25 = .ok (.istore 4, 2) := by decide +kernel
theorem dX5_timeOf_27 : decode cX5_timeOf 27 = .ok (.aload_n 0, 1) := by decide +kernel
theorem dX5_timeOf_28 : decode cX5_timeOf 28 = .ok (.getfield 37, 3) := by decide +kernel
theorem dX5_timeOf_31 : decode cX5_timeOf 31 = .ok (.iconst 2, 1) := by decide +kernel
theorem dX5_timeOf_32 : decode cX5_timeOf 32 = .ok (.if_icmp .ne 34, 3) := by decide +kernel
theorem dX5_timeOf_35 : decode cX5_timeOf 35 = .ok (.aload_n 0, 1) := by decide +kernel
theorem dX5_timeOf_36 : decode cX5_timeOf 36 = .ok (.getfield 43, 3) := by decide +kernel
theorem dX5_timeOf_39 : decode cX5_timeOf 39 = .ok (.ifCond .le 27, 3) := by decide +kernel
theorem dX5_timeOf_42 : decode cX5_timeOf 42 = .ok (.iload_n 3, 1) := by decide +kernel
theorem dX5_timeOf_43 : decode cX5_timeOf 43 = .ok (.aload_n 0, 1) := by decide +kernel
theorem dX5_timeOf_44 : decode cX5_timeOf 44 = .ok (.getfield 24, 3) := by decide +kernel
theorem dX5_timeOf_47 : decode cX5_timeOf 47 = .ok (.iload_n 2, 1) := by decide +kernel
theorem dX5_timeOf_48 : decode cX5_timeOf 48 = .ok (.iaload, 1) := by decide +kernel
theorem dX5_timeOf_49 : decode cX5_timeOf 49 = .ok (.aload_n 0, 1) := by decide +kernel
theorem dX5_timeOf_50 : decode cX5_timeOf 50 = .ok (.getfield 15, 3) := by decide +kernel
theorem dX5_timeOf_53 : decode cX5_timeOf 53 = .ok (.iload_n 2, 1) := by decide +kernel
theorem dX5_timeOf_54 : decode cX5_timeOf 54 = .ok (.iaload, 1) := by decide +kernel
theorem dX5_timeOf_55 : decode cX5_timeOf 55 = .ok (.isub, 1) := by decide +kernel
theorem dX5_timeOf_56 : decode cX5_timeOf 56 = .ok (.imul, 1) := by decide +kernel
theorem dX5_timeOf_57 : decode cX5_timeOf 57 = .ok (.aload_n 0, 1) := by decide +kernel
theorem dX5_timeOf_58 : decode cX5_timeOf 58 = .ok (.getfield 43, 3) := by decide +kernel
theorem dX5_timeOf_61 : decode cX5_timeOf 61 = .ok (.invokestatic 54, 3) := by decide +kernel
theorem dX5_timeOf_64 : decode cX5_timeOf 64 = .ok (.istore 4, 2) := by decide +kernel
theorem dX5_timeOf_66 : decode cX5_timeOf 66 = .ok (.aload_n 0, 1) := by decide +kernel
theorem dX5_timeOf_67 : decode cX5_timeOf 67 = .ok (.getfield 30, 3) := by decide +kernel
theorem dX5_timeOf_70 : decode cX5_timeOf 70 = .ok (.iconst 3, 1) := by decide +kernel
theorem dX5_timeOf_71 : decode cX5_timeOf 71 = .ok (.iload_n 1, 1) := by decide +kernel
theorem dX5_timeOf_72 : decode cX5_timeOf 72 = .ok (.imul, 1) := by decide +kernel
theorem dX5_timeOf_73 : decode cX5_timeOf 73 = .ok (.iload_n 2, 1) := by decide +kernel
theorem dX5_timeOf_74 : decode cX5_timeOf 74 = .ok (.iadd, 1) := by decide +kernel
theorem dX5_timeOf_75 : decode cX5_timeOf 75 = .ok (.iaload, 1) := by decide +kernel
theorem dX5_timeOf_76 : decode cX5_timeOf 76 = .ok (.aload_n 0, 1) := by decide +kernel
theorem dX5_timeOf_77 : decode cX5_timeOf 77 = .ok (.getfield 15, 3) := by decide +kernel
theorem dX5_timeOf_80 : decode cX5_timeOf 80 = .ok (.iload_n 2, 1) := by decide +kernel
theorem dX5_timeOf_81 : decode cX5_timeOf 81 = .ok (.iaload, 1) := by decide +kernel
theorem dX5_timeOf_82 : decode cX5_timeOf 82 = .ok (.isub, 1) := by decide +kernel
theorem dX5_timeOf_83 : decode cX5_timeOf 83 = .ok (.iload 4, 2) := by decide +kernel
theorem dX5_timeOf_85 : decode cX5_timeOf 85 = .ok (.isub, 1) := by decide +kernel
theorem dX5_timeOf_86 : decode cX5_timeOf 86 = .ok (.ireturn, 1) := by decide +kernel
theorem dX5_widthOf_0 : decode cX5_widthOf 0 = .ok (.aload_n 0, 1) := by decide +kernel
theorem dX5_widthOf_1 : decode cX5_widthOf 1 = .ok (.iload_n 1, 1) := by decide +kernel
theorem dX5_widthOf_2 : decode cX5_widthOf 2 = .ok (.iload_n 2, 1) := by decide +kernel
theorem dX5_widthOf_3 : decode cX5_widthOf 3 = .ok (.invokevirtual 46, 3) := by decide +kernel
theorem dX5_widthOf_6 : decode cX5_widthOf 6 = .ok (.ifCond .ne 5, 3) := by decide +kernel
theorem dX5_widthOf_9 : decode cX5_widthOf 9 = .ok (.iconst 0, 1) := by decide +kernel
theorem dX5_widthOf_10 : decode cX5_widthOf 10 = .ok (.ireturn, 1) := by decide +kernel
theorem dX5_widthOf_11 : decode cX5_widthOf 11 = .ok (.aload_n 0, 1) := by decide +kernel
theorem dX5_widthOf_12 : decode cX5_widthOf 12 = .ok (.iload_n 1, 1) := by decide +kernel
theorem dX5_widthOf_13 : decode cX5_widthOf 13 = .ok (.invokevirtual 50, 3) := by decide +kernel
theorem dX5_widthOf_16 : decode cX5_widthOf 16 = .ok (.istore_n 3, 1) := by decide +kernel
theorem dX5_widthOf_17 : decode cX5_widthOf 17 = .ok (.aload_n 0, 1) := by decide +kernel
theorem dX5_widthOf_18 : decode cX5_widthOf 18 = .ok (.getfield 21, 3) := by decide +kernel
theorem dX5_widthOf_21 : decode cX5_widthOf 21 = .ok (.iload_n 2, 1) := by decide +kernel
theorem dX5_widthOf_22 : decode cX5_widthOf 22 = .ok (.iaload, 1) := by decide +kernel
theorem dX5_widthOf_23 : decode cX5_widthOf 23 = .ok (.aload_n 0, 1) := by decide +kernel
theorem dX5_widthOf_24 : decode cX5_widthOf 24 = .ok (.getfield 37, 3) := by decide +kernel
theorem dX5_widthOf_27 : decode cX5_widthOf 27 = .ok (.iconst 2, 1) := by decide +kernel
theorem dX5_widthOf_28 : decode cX5_widthOf 28 = .ok (.if_icmp .ne 16, 3) := by decide +kernel
theorem dX5_widthOf_31 : decode cX5_widthOf 31 = .ok (.iload_n 3, 1) := by decide +kernel
theorem dX5_widthOf_32 : decode cX5_widthOf 32 = .ok (.aload_n 0, 1) := by decide +kernel
theorem dX5_widthOf_33 : decode cX5_widthOf 33 = .ok (.getfield 43, 3) := by decide +kernel
theorem dX5_widthOf_36 : decode cX5_widthOf 36 = .ok (.iload_n 3, 1) := by decide +kernel
theorem dX5_widthOf_37 : decode cX5_widthOf 37 = .ok (.isub, 1) := by decide +kernel
theorem dX5_widthOf_38 : decode cX5_widthOf 38 = .ok (.invokestatic 60, 3) := by decide +kernel
theorem dX5_widthOf_41 : decode cX5_widthOf 41 = .ok (.goto 4, 3) := by decide +kernel
theorem dX5_widthOf_44 : decode cX5_widthOf 44 = .ok (.iload_n 3, 1) := by decide +kernel
theorem dX5_widthOf_45 : decode cX5_widthOf 45 = .ok (.imul, 1) := by decide +kernel
theorem dX5_widthOf_46 : decode cX5_widthOf 46 = .ok (.iconst 5, 1) := by decide +kernel
theorem dX5_widthOf_47 : decode cX5_widthOf 47 = .ok (.iadd, 1) := by decide +kernel
theorem dX5_widthOf_48 : decode cX5_widthOf 48 = .ok (.ireturn, 1) := by decide +kernel
