theorem dX7_addMark_0 : decode cX7_addMark 0 = .ok (.iload_n 1, 1) := by decide +kernel
theorem dX7_addMark_1 : decode cX7_addMark 1 = .ok (.invokestatic 24, 3) := by decide +kernel
theorem dX7_addMark_4 : decode cX7_addMark 4 = .ok (.ifCond .eq 12, 3) := by decide +kernel
theorem dX7_addMark_7 : decode cX7_addMark 7 = .ok (.aload_n 0, 1) := by decide +kernel
theorem dX7_addMark_8 : decode cX7_addMark 8 = .ok (.iload_n 1, 1) := by decide +kernel
theorem dX7_addMark_9 : decode cX7_addMark 9 = .ok (.iload_n 2, 1) := by decide +kernel
theorem dX7_addMark_10 : decode cX7_addMark 10 = .ok (.invokevirtual 49, 3) := by decide +kernel
theorem dX7_addMark_13 : decode cX7_addMark 13 = .ok (.ifCond .eq 5, 3) := by decide +kernel
theorem dX7_addMark_16 : decode cX7_addMark 16 = .ok (.iconst 0, 1) := by decide +kernel
theorem dX7_addMark_17 : decode cX7_addMark 17 = .ok (.ireturn, 1) := by decide +kernel
theorem dX7_addMark_18 : decode cX7_addMark 18 = .ok (.aload_n 0, 1) := by decide +kernel
theorem dX7_addMark_19 : decode cX7_addMark 19 = .ok (.getfield 18, 3) := by decide +kernel
theorem dX7_addMark_22 : decode cX7_addMark 22 = .ok (.iload_n 1, 1) := by decide +kernel
theorem dX7_addMark_23 : decode cX7_addMark 23 = .ok (.dup2, 1) := by decide +kernel
theorem dX7_addMark_24 : decode cX7_addMark 24 = .ok (.iaload, 1) := by decide +kernel
theorem dX7_addMark_25 : decode cX7_addMark 25 = .ok (.iload_n 2, 1) := by decide +kernel
theorem dX7_addMark_26 : decode cX7_addMark 26 = .ok (.ior, 1) := by decide +kernel
theorem dX7_addMark_27 : decode cX7_addMark 27 = .ok (.iastore, 1) := by decide +kernel
theorem dX7_addMark_28 : decode cX7_addMark 28 = .ok (.iconst 1, 1) := by decide +kernel
theorem dX7_addMark_29 : decode cX7_addMark 29 = .ok (.ireturn, 1) := by decide +kernel
theorem dX7_ageOn_0 : decode cX7_ageOn 0 = .ok (.iconst 0, 1) := by decide +kernel
theorem dX7_ageOn_1 : decode cX7_ageOn 1 = .ok (.istore_n 2, 1) := by decide +kernel
theorem dX7_ageOn_2 : decode cX7_ageOn 2 = .ok (.iload_n 2, 1) := by decide +kernel
theorem dX7_ageOn_3 : decode cX7_ageOn 3 = .ok (.iload_n 1, 1) := by decide +kernel
theorem dX7_ageOn_4 : decode cX7_ageOn 4 = .ok (.if_icmp .ge 22, 3) := by decide +kernel
theorem dX7_ageOn_7 : decode cX7_ageOn 7 = .ok (.aload_n 0, 1) := by decide +kernel
theorem dX7_ageOn_8 : decode cX7_ageOn 8 = .ok (.iload_n 1, 1) := by decide +kernel
theorem dX7_ageOn_9 : decode cX7_ageOn 9 = .ok (.iload_n 2, 1) := by decide +kernel
theorem dX7_ageOn_10 : decode cX7_ageOn 10 = .ok (.isub, 1) := by decide +kernel
theorem dX7_ageOn_11 : decode cX7_ageOn 11 = .ok (.iconst 1, 1) := by decide +kernel
theorem dX7_ageOn_12 : decode cX7_ageOn 12 = .ok (.invokevirtual 49, 3) := by decide +kernel
theorem dX7_ageOn_15 : decode cX7_ageOn 15 = .ok (.ifCond .eq 5, 3) := by decide +kernel
theorem dX7_ageOn_18 : decode cX7_ageOn 18 = .ok (.iload_n 2, 1) := by decide +kernel
theorem dX7_ageOn_19 : decode cX7_ageOn 19 = .ok (.ireturn, 1) := by decide +kernel
theorem dX7_ageOn_20 : decode cX7_ageOn 20 = .ok (.iinc 2 1, 3) := by decide +kernel
theorem dX7_ageOn_23 : decode cX7_ageOn 23 = .ok (.goto (-21), 3) := by decide +kernel
theorem dX7_ageOn_26 : decode cX7_ageOn 26 = .ok (.iload_n 1, 1) := by decide +kernel
theorem dX7_ageOn_27 : decode cX7_ageOn 27 = .ok (.ireturn, 1) := by decide +kernel
theorem dX7_becomeNew_0 : decode cX7_becomeNew 0 = .ok (.iconst 0, 1) := by decide +kernel
theorem dX7_becomeNew_1 : decode cX7_becomeNew 1 = .ok (.istore_n 1, 1) := by decide +kernel
theorem dX7_becomeNew_2 : decode cX7_becomeNew 2 = .ok (.iload_n 1, 1) := by decide +kernel
theorem dX7_becomeNew_3 : decode cX7_becomeNew 3 = .ok (.sipush 400, 3) := by decide +kernel
theorem dX7_becomeNew_6 : decode cX7_becomeNew 6 = .ok (.if_icmp .ge 37, 3) := by decide +kernel
theorem dX7_becomeNew_9 : decode cX7_becomeNew 9 = .ok (.aload_n 0, 1) := by decide +kernel
theorem dX7_becomeNew_10 : decode cX7_becomeNew 10 = .ok (.getfield 9, 3) := by decide +kernel
theorem dX7_becomeNew_13 : decode cX7_becomeNew 13 = .ok (.iload_n 1, 1) := by decide +kernel
theorem dX7_becomeNew_14 : decode cX7_becomeNew 14 = .ok (.iconst 0, 1) := by decide +kernel
theorem dX7_becomeNew_15 : decode cX7_becomeNew 15 = .ok (.iastore, 1) := by decide +kernel
theorem dX7_becomeNew_16 : decode cX7_becomeNew 16 = .ok (.aload_n 0, 1) := by decide +kernel
theorem dX7_becomeNew_17 : decode cX7_becomeNew 17 = .ok (.getfield 15, 3) := by decide +kernel
theorem dX7_becomeNew_20 : decode cX7_becomeNew 20 = .ok (.iload_n 1, 1) := by decide +kernel
theorem dX7_becomeNew_21 : decode cX7_becomeNew 21 = .ok (.iconst (-1), 1) := by decide +kernel
theorem dX7_becomeNew_22 : decode cX7_becomeNew 22 = .ok (.iastore, 1) := by decide +kernel
theorem dX7_becomeNew_23 : decode cX7_becomeNew 23 = .ok (.aload_n 0, 1) := by decide +kernel
theorem dX7_becomeNew_24 : decode cX7_becomeNew 24 = .ok (.getfield 18, 3) := by decide +kernel
theorem dX7_becomeNew_27 : decode cX7_becomeNew 27 = .ok (.iload_n 1, 1) := by decide +kernel
theorem dX7_becomeNew_28 : decode cX7_becomeNew 28 = .ok (.iconst 0, 1) := by decide +kernel
theorem dX7_becomeNew_29 : decode cX7_becomeNew 29 = .ok (.iastore, 1) := by decide +kernel
theorem dX7_becomeNew_30 : decode cX7_becomeNew 30 = .ok (.aload_n 0, 1) := by decide +kernel
theorem dX7_becomeNew_31 : decode cX7_becomeNew 31 = .ok (.getfield 21, 3) := by decide +kernel
theorem dX7_becomeNew_34 : decode cX7_becomeNew 34 = .ok (.iload_n 1, 1) := by decide +kernel
theorem dX7_becomeNew_35 : decode cX7_becomeNew 35 = .ok (.iconst (-1), 1) := by decide +kernel
theorem dX7_becomeNew_36 : decode cX7_becomeNew 36 = .ok (.iastore, 1) := by decide +kernel
theorem dX7_becomeNew_37 : decode cX7_becomeNew 37 = .ok (.iinc 1 1, 3) := by decide +kernel
theorem dX7_becomeNew_40 : decode cX7_becomeNew 40 = .ok (.goto (-38), 3) := by decide +kernel
theorem dX7_becomeNew_43 : decode cX7_becomeNew 43 = .ok (.return_, 1) := by decide +kernel
theorem dX7_daysAway_0 : decode cX7_daysAway 0 = .ok (.iconst 0, 1) := by decide +kernel
theorem dX7_daysAway_1 : decode cX7_daysAway 1 = .ok (.istore_n 2, 1) := by decide +kernel
theorem dX7_daysAway_2 : decode cX7_daysAway 2 = .ok (.iconst 0, 1) := by decide +kernel
theorem dX7_daysAway_3 : decode cX7_daysAway 3 = .ok (.istore_n 3, 1) := by decide +kernel
theorem dX7_daysAway_4 : decode cX7_daysAway 4 = .ok (.iload_n 3, 1) := by decide +kernel
theorem dX7_daysAway_5 : decode cX7_daysAway 5 = .ok (.iload_n 1, 1) := by decide +kernel
theorem dX7_daysAway_6 : decode cX7_daysAway 6 = .ok (.if_icmp .gt 29, 3) := by decide +kernel
theorem dX7_daysAway_9 : decode cX7_daysAway 9 = .ok (.iload_n 3, 1) := by decide +kernel
theorem dX7_daysAway_10 : decode cX7_daysAway 10 = .ok (.sipush 400, 3) := by decide +kernel
theorem dX7_daysAway_13 : decode cX7_daysAway 13 = .ok (.if_icmp .ge 22, 3) := by decide +kernel
theorem dX7_daysAway_16 : decode cX7_daysAway 16 = .ok (.aload_n 0, 1) := by decide +kernel
theorem dX7_daysAway_17 : decode cX7_daysAway 17 = .ok (.getfield 21, 3) := by decide +kernel
theorem dX7_daysAway_20 : decode cX7_daysAway 20 = .ok (.iload_n 3, 1) := by decide +kernel
theorem dX7_daysAway_21 : decode cX7_daysAway 21 = .ok (.iaload, 1) := by decide +kernel
theorem dX7_daysAway_22 : decode cX7_daysAway 22 = .ok (.iconst (-1), 1) := by decide +kernel
theorem dX7_daysAway_23 : decode cX7_daysAway 23 = .ok (.if_icmp .eq 6, 3) := by decide +kernel
theorem dX7_daysAway_26 : decode cX7_daysAway 26 = .ok (.iinc 2 1, 3) := by decide +kernel
theorem dX7_daysAway_29 : decode cX7_daysAway 29 = .ok (.iinc 3 1, 3) := by decide +kernel
theorem dX7_daysAway_32 : decode cX7_daysAway 32 = .ok (.goto (-28), 3) := by decide +kernel
theorem dX7_daysAway_35 : decode cX7_daysAway 35 = .ok (.iload_n 2, 1) := by decide +kernel
theorem dX7_daysAway_36 : decode cX7_daysAway 36 = .ok (.ireturn, 1) := by decide +kernel
theorem dX7_errorAsKnown_0 : decode cX7_errorAsKnown 0 = .ok (.aload_n 0, 1) := by decide +kernel
theorem dX7_errorAsKnown_1 : decode cX7_errorAsKnown 1 = .ok (.iload_n 1, 1) := by decide +kernel
theorem dX7_errorAsKnown_2 : decode cX7_errorAsKnown 2 = .ok (.invokevirtual 28, 3) := by decide +kernel
theorem dX7_errorAsKnown_5 : decode cX7_errorAsKnown 5 = .ok (.ifCond .eq 25, 3) := by decide +kernel
theorem dX7_errorAsKnown_8 : decode cX7_errorAsKnown 8 = .ok (.aload_n 0, 1) := by decide +kernel
theorem dX7_errorAsKnown_9 : decode cX7_errorAsKnown 9 = .ok (.getfield 9, 3) := by decide +kernel
theorem dX7_errorAsKnown_12 : decode cX7_errorAsKnown 12 = .ok (.iload_n 1, 1) := by decide +kernel
theorem dX7_errorAsKnown_13 : decode cX7_errorAsKnown 13 = .ok (.iaload, 1) := by decide +kernel
theorem dX7_errorAsKnown_14 : decode cX7_errorAsKnown 14 = .ok (.aload_n 2, 1) := by decide +kernel
theorem dX7_errorAsKnown_15 : decode cX7_errorAsKnown 15 = .ok (.aload_n 0, 1) := by decide +kernel
theorem dX7_errorAsKnown_16 : decode cX7_errorAsKnown 16 = .ok (.getfield 15, 3) := by decide +kernel
theorem dX7_errorAsKnown_19 : decode cX7_errorAsKnown 19 = .ok (.iload_n 1, 1) := by decide +kernel
theorem dX7_errorAsKnown_20 : decode cX7_errorAsKnown 20 = .ok (.iaload, 1) := by decide +kernel
theorem dX7_errorAsKnown_21 : decode cX7_errorAsKnown 21 = .ok (.iload_n 1, 1) := by decide +kernel
theorem dX7_errorAsKnown_22 : decode cX7_errorAsKnown 22 = .ok (.iload_n 3, 1) := by decide +kernel
theorem dX7_errorAsKnown_23 : decode cX7_errorAsKnown 23 = .ok (.invokevirtual 31, 3) := by decide +kernel
theorem dX7_errorAsKnown_26 : decode cX7_errorAsKnown 26 = .ok (.isub, 1) := by decide +kernel
theorem dX7_errorAsKnown_27 : decode cX7_errorAsKnown 27 = .ok (.goto 5, 3) := by decide +kernel
theorem dX7_errorAsKnown_30 : decode cX7_errorAsKnown 30 = .ok (.ldc 37, 2) := by decide +kernel
theorem dX7_errorAsKnown_32 : decode cX7_errorAsKnown 32 = .ok (.ireturn, 1) := by decide +kernel
theorem dX7_giveTo_0 : decode cX7_giveTo 0 = .ok (.iconst 0, 1) := by decide +kernel
theorem dX7_giveTo_1 : decode cX7_giveTo 1 = .ok (.iload_n 2, 1) := by decide +kernel
theorem dX7_giveTo_2 : decode cX7_giveTo 2 = .ok (.invokestatic 52, 3) := by decide +kernel
theorem dX7_giveTo_5 : decode cX7_giveTo 5 = .ok (.istore_n 3, 1) := by decide +kernel
theorem dX7_giveTo_6 : decode cX7_giveTo 6 = .ok (.iload_n 3, 1) := by decide +kernel
theorem dX7_giveTo_7 : decode cX7_giveTo 7 = .ok (.sipush 400, 3) := by decide +kernel
theorem dX7_giveTo_10 : decode cX7_giveTo 10 = .ok (.if_icmp .ge 16, 3) := by decide +kernel
theorem dX7_giveTo_13 : decode cX7_giveTo 13 = .ok (.aload_n 0, 1) := by decide +kernel
theorem dX7_giveTo_14 : decode cX7_giveTo 14 = .ok (.getfield 21, 3) := by decide +kernel
theorem dX7_giveTo_17 : decode cX7_giveTo 17 = .ok (.iload_n 3, 1) := by decide +kernel
theorem dX7_giveTo_18 : decode cX7_giveTo 18 = .ok (.iload_n 1, 1) := by decide +kernel
theorem dX7_giveTo_19 : decode cX7_giveTo 19 = .ok (.iastore, 1) := by decide +kernel
theorem dX7_giveTo_20 : decode cX7_giveTo 20 = .ok (.iinc 3 1, 3) := by decide +kernel
theorem dX7_giveTo_23 : decode cX7_giveTo 23 = .ok (.goto (-17), 3) := by decide +kernel
theorem dX7_giveTo_26 : decode cX7_giveTo 26 = .ok (.return_, 1) := by decide +kernel
theorem dX7_holderOn_0 : decode cX7_holderOn 0 = .ok (.iload_n 1, 1) := by decide +kernel
theorem dX7_holderOn_1 : decode cX7_holderOn 1 = .ok (.invokestatic 24, 3) := by decide +kernel
theorem dX7_holderOn_4 : decode cX7_holderOn 4 = .ok (.ifCond .eq 12, 3) := by decide +kernel
theorem dX7_holderOn_7 : decode cX7_holderOn 7 = .ok (.aload_n 0, 1) := by decide +kernel
theorem dX7_holderOn_8 : decode cX7_holderOn 8 = .ok (.getfield 21, 3) := by decide +kernel
theorem dX7_holderOn_11 : decode cX7_holderOn 11 = .ok (.iload_n 1, 1) := by decide +kernel
theorem dX7_holderOn_12 : decode cX7_holderOn 12 = .ok (.iaload, 1) := by decide +kernel
theorem dX7_holderOn_13 : decode cX7_holderOn 13 = .ok (.goto 4, 3) := by decide +kernel
theorem dX7_holderOn_16 : decode cX7_holderOn 16 = .ok (.iconst (-1), 1) := by decide +kernel
theorem dX7_holderOn_17 : decode cX7_holderOn 17 = .ok (.ireturn, 1) := by decide +kernel
theorem dX7_isCompared_0 : decode cX7_isCompared 0 = .ok (.iload_n 1, 1) := by decide +kernel
theorem dX7_isCompared_1 : decode cX7_isCompared 1 = .ok (.invokestatic 24, 3) := by decide +kernel
theorem dX7_isCompared_4 : decode cX7_isCompared 4 = .ok (.ifCond .eq 17, 3) := by decide +kernel
theorem dX7_isCompared_7 : decode cX7_isCompared 7 = .ok (.aload_n 0, 1) := by decide +kernel
theorem dX7_isCompared_8 : decode cX7_isCompared 8 = .ok (.getfield 15, 3) := by decide +kernel
theorem dX7_isCompared_11 : decode cX7_isCompared 11 = .ok (.iload_n 1, 1) := by decide +kernel
theorem dX7_isCompared_12 : decode cX7_isCompared 12 = .ok (.iaload, 1) := by decide +kernel
theorem dX7_isCompared_13 : decode cX7_isCompared 13 = .ok (.iconst (-1), 1) := by decide +kernel
theorem dX7_isCompared_14 : decode cX7_isCompared 14 = .ok (.if_icmp .eq 7, 3) := by decide +kernel
theorem dX7_isCompared_17 : decode cX7_isCompared 17 = .ok (.iconst 1, 1) := by decide +kernel
theorem dX7_isCompared_18 : decode cX7_isCompared 18 = .ok (.goto 4, 3) := by decide +kernel
theorem dX7_isCompared_21 : decode cX7_isCompared 21 = .ok (.iconst 0, 1) := by decide +kernel
theorem dX7_isCompared_22 : decode cX7_isCompared 22 = .ok (.ireturn, 1) := by decide +kernel
theorem dX7_isMarked_0 : decode cX7_isMarked 0 = .ok (.iload_n 1, 1) := by decide +kernel
theorem dX7_isMarked_1 : decode cX7_isMarked 1 = .ok (.invokestatic 24, 3) := by decide +kernel
theorem dX7_isMarked_4 : decode cX7_isMarked 4 = .ok (.ifCond .eq 18, 3) := by decide +kernel
theorem dX7_isMarked_7 : decode cX7_isMarked 7 = .ok (.aload_n 0, 1) := by decide +kernel
theorem dX7_isMarked_8 : decode cX7_isMarked 8 = .ok (.getfield 18, 3) := by decide +kernel
theorem dX7_isMarked_11 : decode cX7_isMarked 11 = .ok (.iload_n 1, 1) := by decide +kernel
theorem dX7_isMarked_12 : decode cX7_isMarked 12 = .ok (.iaload, 1) := by decide +kernel
theorem dX7_isMarked_13 : decode cX7_isMarked 13 = .ok (.iload_n 2, 1) := by decide +kernel
theorem dX7_isMarked_14 : decode cX7_isMarked 14 = .ok (.iand, 1) := by decide +kernel
theorem dX7_isMarked_15 : decode cX7_isMarked 15 = .ok (.ifCond .eq 7, 3) := by decide +kernel
theorem dX7_isMarked_18 : decode cX7_isMarked 18 = .ok (.iconst 1, 1) := by decide +kernel
theorem dX7_isMarked_19 : decode cX7_isMarked 19 = .ok (.goto 4, 3) := by decide +kernel
theorem dX7_isMarked_22 : decode cX7_isMarked 22 = .ok (.iconst 0, 1) := by decide +kernel
theorem dX7_isMarked_23 : decode cX7_isMarked 23 = .ok (.ireturn, 1) := by decide +kernel
theorem dX7_rateAsKnown_0 : decode cX7_rateAsKnown 0 = .ok (.aload_n 0, 1) := by decide +kernel
theorem dX7_rateAsKnown_1 : decode cX7_rateAsKnown 1 = .ok (.iload_n 1, 1) := by decide +kernel
theorem dX7_rateAsKnown_2 : decode cX7_rateAsKnown 2 = .ok (.aload_n 0, 1) := by decide +kernel
theorem dX7_rateAsKnown_3 : decode cX7_rateAsKnown 3 = .ok (.iload_n 1, 1) := by decide +kernel
theorem dX7_rateAsKnown_4 : decode cX7_rateAsKnown 4 = .ok (.aload_n 2, 1) := by decide +kernel
theorem dX7_rateAsKnown_5 : decode cX7_rateAsKnown 5 = .ok (.iload_n 3, 1) := by decide +kernel
theorem dX7_rateAsKnown_6 : decode cX7_rateAsKnown 6 = .ok (.invokevirtual 38, 3) := by decide +kernel
theorem dX7_rateAsKnown_9 : decode cX7_rateAsKnown 9 = .ok (.aload_n 0, 1) := by decide +kernel
theorem dX7_rateAsKnown_10 : decode cX7_rateAsKnown 10 = .ok (.iload_n 1, 1) := by decide +kernel
theorem dX7_rateAsKnown_11 : decode cX7_rateAsKnown 11 = .ok (.iconst 1, 1) := by decide +kernel
theorem dX7_rateAsKnown_12 : decode cX7_rateAsKnown 12 = .ok (.iadd, 1) := by decide +kernel
theorem dX7_rateAsKnown_13 : decode cX7_rateAsKnown 13 = .ok (.aload_n 2, 1) := by decide +kernel
theorem dX7_rateAsKnown_14 : decode cX7_rateAsKnown 14 = .ok (.iload_n 3, 1) := by decide +kernel
theorem dX7_rateAsKnown_15 : decode cX7_rateAsKnown 15 = .ok (.invokevirtual 38, 3) := by decide +kernel
theorem dX7_rateAsKnown_18 : decode cX7_rateAsKnown 18 = .ok (.invokevirtual 42, 3) := by decide +kernel
theorem dX7_rateAsKnown_21 : decode cX7_rateAsKnown 21 = .ok (.ireturn, 1) := by decide +kernel
theorem dX7_rateBetween_0 : decode cX7_rateBetween 0 = .ok (.iload_n 2, 1) := by decide +kernel
theorem dX7_rateBetween_1 : decode cX7_rateBetween 1 = .ok (.ldc 37, 2) := by decide +kernel
theorem dX7_rateBetween_3 : decode cX7_rateBetween 3 = .ok (.if_icmp .eq 21, 3) := by decide +kernel
theorem dX7_rateBetween_6 : decode cX7_rateBetween 6 = .ok (.iload_n 3, 1) := by decide +kernel
theorem dX7_rateBetween_7 : decode cX7_rateBetween 7 = .ok (.ldc 37, 2) := by decide +kernel
theorem dX7_rateBetween_9 : decode cX7_rateBetween 9 = .ok (.if_icmp .eq 15, 3) := by decide +kernel
theorem dX7_rateBetween_12 : decode cX7_rateBetween 12 = .ok (.iload_n 3, 1) := by decide +kernel
theorem dX7_rateBetween_13 : decode cX7_rateBetween 13 = .ok (.iload_n 2, 1) := by decide +kernel
theorem dX7_rateBetween_14 : decode cX7_rateBetween 14 = .ok (.isub, 1) := by decide +kernel
theorem dX7_rateBetween_15 : decode cX7_rateBetween 15 = .ok (.sipush 999, 3) := by decide +kernel
theorem dX7_rateBetween_18 : decode cX7_rateBetween 18 = .ok (.invokestatic 45, 3) := by decide +kernel
theorem dX7_rateBetween_21 : decode cX7_rateBetween 21 = .ok (.ifCond .ne 6, 3) := by decide +kernel
theorem dX7_rateBetween_24 : decode cX7_rateBetween 24 = .ok (.ldc 37, 2) := by decide +kernel
theorem dX7_rateBetween_26 : decode cX7_rateBetween 26 = .ok (.ireturn, 1) := by decide +kernel
theorem dX7_rateBetween_27 : decode cX7_rateBetween 27 = .ok (.aload_n 0, 1) := by decide +kernel
theorem dX7_rateBetween_28 : decode cX7_rateBetween 28 = .ok (.iload_n 1, 1) := by decide +kernel
theorem dX7_rateBetween_29 : decode cX7_rateBetween 29 = .ok (.iconst 2, 1) := by decide +kernel
theorem dX7_rateBetween_30 : decode cX7_rateBetween 30 = .ok (.invokevirtual 49, 3) := by decide +kernel
theorem dX7_rateBetween_33 : decode cX7_rateBetween 33 = .ok (.ifCond .ne 14, 3) := by decide +kernel
theorem dX7_rateBetween_36 : decode cX7_rateBetween 36 = .ok (.aload_n 0, 1) := by decide +kernel
theorem dX7_rateBetween_37 : decode cX7_rateBetween 37 = .ok (.iload_n 1, 1) := by decide +kernel
theorem dX7_rateBetween_38 : decode cX7_rateBetween 38 = .ok (.iconst 1, 1) := by decide +kernel
theorem dX7_rateBetween_39 : decode cX7_rateBetween 39 = .ok (.iadd, 1) := by decide +kernel
theorem dX7_rateBetween_40 : decode cX7_rateBetween 40 = .ok (.iconst 3, 1) := by decide +kernel
theorem dX7_rateBetween_41 : decode cX7_rateBetween 41 = .ok (.invokevirtual 49, 3) := by decide +kernel
theorem dX7_rateBetween_44 : decode cX7_rateBetween 44 = .ok (.ifCond .eq 6, 3) := by decide +kernel
theorem dX7_rateBetween_47 : decode cX7_rateBetween 47 = .ok (.ldc 37, 2) := by decide +kernel
theorem dX7_rateBetween_49 : decode cX7_rateBetween 49 = .ok (.ireturn, 1) := by decide +kernel
theorem dX7_rateBetween_50 : decode cX7_rateBetween 50 = .ok (.iload_n 3, 1) := by decide +kernel
theorem dX7_rateBetween_51 : decode cX7_rateBetween 51 = .ok (.iload_n 2, 1) := by decide +kernel
theorem dX7_rateBetween_52 : decode cX7_rateBetween 52 = .ok (.isub, 1) := by decide +kernel
theorem dX7_rateBetween_53 : decode cX7_rateBetween 53 = .ok (.ireturn, 1) := by decide +kernel
theorem dX7_tell_0 : decode cX7_tell 0 = .ok (.iload_n 1, 1) := by decide +kernel
theorem dX7_tell_1 : decode cX7_tell 1 = .ok (.invokestatic 24, 3) := by decide +kernel
theorem dX7_tell_4 : decode cX7_tell 4 = .ok (.ifCond .eq 17, 3) := by decide +kernel
theorem dX7_tell_7 : decode cX7_tell 7 = .ok (.aload_n 0, 1) := by decide +kernel
theorem dX7_tell_8 : decode cX7_tell 8 = .ok (.getfield 9, 3) := by decide +kernel
theorem dX7_tell_11 : decode cX7_tell 11 = .ok (.iload_n 1, 1) := by decide +kernel
theorem dX7_tell_12 : decode cX7_tell 12 = .ok (.iload_n 2, 1) := by decide +kernel
theorem dX7_tell_13 : decode cX7_tell 13 = .ok (.iastore, 1) := by decide +kernel
theorem dX7_tell_14 : decode cX7_tell 14 = .ok (.aload_n 0, 1) := by decide +kernel
theorem dX7_tell_15 : decode cX7_tell 15 = .ok (.getfield 15, 3) := by decide +kernel
theorem dX7_tell_18 : decode cX7_tell 18 = .ok (.iload_n 1, 1) := by decide +kernel
theorem dX7_tell_19 : decode cX7_tell 19 = .ok (.iload_n 3, 1) := by decide +kernel
theorem dX7_tell_20 : decode cX7_tell 20 = .ok (.iastore, 1) := by decide +kernel
theorem dX7_tell_21 : decode cX7_tell 21 = .ok (.return_, 1) := by decide +kernel
