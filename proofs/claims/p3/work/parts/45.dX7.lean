theorem dX7_addMark_0 : decode cX7_addMark 0 = .ok (.iload_n 1, 1) := by decide +kernel
theorem dX7_addMark_1 : decode cX7_addMark 1 = .ok (.invokestatic 24, 3) := by decide +kernel
theorem dX7_addMark_4 : decode cX7_addMark 4 = .ok (.ifCond .eq 12, 3) := by decide +kernel
theorem dX7_addMark_7 : decode cX7_addMark 7 = .ok (.aload_n 0, 1) := by decide +kernel
theorem dX7_addMark_8 : decode cX7_addMark 8 = .ok (.iload_n 1, 1) := by decide +kernel
theorem dX7_addMark_9 : decode cX7_addMark 9 = .ok (.iload_n 2, 1) := by decide +kernel
theorem dX7_addMark_10 : decode cX7_addMark 10 = .ok (.invokevirtual 49, 3) := by decide +kernel
theorem dX7_addMark_13 : decode cX7_addMark 13 = .ok (.ifCond .eq 5, 3) := by decide +kernel
theorem dX7_addMark_16 : decode cX7_addMark 16 = .ok (.iconst 0, 1) := by decide +kernel
theorem dX7_addMark_17 : decode cX7_addMark 17 = .ok (.ireturn, 1) := by decide +kernel
theorem dX7_addMark_18 : decode cX7_addMark 18 = .ok (.aload_n 0, 1) := by decide +kernel
theorem dX7_addMark_19 : decode cX7_addMark 19 = .ok (.getfield 18, 3) := by decide +kernel
theorem dX7_addMark_22 : decode cX7_addMark 22 = .ok (.iload_n 1, 1) := by decide +kernel
theorem dX7_addMark_23 : decode cX7_addMark 23 = .ok (.dup2, 1) := by decide +kernel
theorem dX7_addMark_24 : decode cX7_addMark 24 = .ok (.iaload, 1) := by decide +kernel
theorem dX7_addMark_25 : decode cX7_addMark 25 = .ok (.iload_n 2, 1) := by decide +kernel
theorem dX7_addMark_26 : decode cX7_addMark 26 = .ok (.ior, 1) := by decide +kernel
theorem dX7_addMark_27 : decode cX7_addMark 27 = .ok (.iastore, 1) := by decide +kernel
theorem dX7_addMark_28 : decode cX7_addMark 28 = .ok (.iconst 1, 1) := by decide +kernel
theorem dX7_addMark_29 : decode cX7_addMark 29 = .ok (.ireturn, 1) := by decide +kernel
theorem dX7_becomeNew_0 : decode cX7_becomeNew 0 = .ok (.iconst 0, 1) := by decide +kernel
theorem dX7_becomeNew_1 : decode cX7_becomeNew 1 = .ok (.istore_n 1, 1) := by decide +kernel
theorem dX7_becomeNew_2 : decode cX7_becomeNew 2 = .ok (.iload_n 1, 1) := by decide +kernel
theorem dX7_becomeNew_3 : decode cX7_becomeNew 3 = .ok (.sipush 400, 3) := by decide +kernel
theorem dX7_becomeNew_6 : decode cX7_becomeNew 6 = .ok (.if_icmp .ge 37, 3) := by decide +kernel
theorem dX7_becomeNew_9 : decode cX7_becomeNew 9 = .ok (.aload_n 0, 1) := by decide +kernel
theorem dX7_becomeNew_10 : decode cX7_becomeNew 10 = .ok (.getfield 9, 3) := by decide +kernel
theorem dX7_becomeNew_13 : decode cX7_becomeNew 13 = .ok (.iload_n 1, 1) := by decide +kernel
theorem dX7_becomeNew_14 : decode cX7_becomeNew 14 = .ok (.iconst 0, 1) := by decide +kernel
theorem dX7_becomeNew_15 : decode cX7_becomeNew 15 = .ok (.iastore, 1) := by decide +kernel
theorem dX7_becomeNew_16 : decode cX7_becomeNew 16 = .ok (.aload_n 0, 1) := by decide +kernel
theorem dX7_becomeNew_17 : decode cX7_becomeNew 17 = .ok (.getfield 15, 3) := by decide +kernel
theorem dX7_becomeNew_20 : decode cX7_becomeNew 20 = .ok (.iload_n 1, 1) := by decide +kernel
theorem dX7_becomeNew_21 : decode cX7_becomeNew 21 = .ok (.iconst (-1), 1) := by decide +kernel
theorem dX7_becomeNew_22 : decode cX7_becomeNew 22 = .ok (.iastore, 1) := by decide +kernel
theorem dX7_becomeNew_23 : decode cX7_becomeNew 23 = .ok (.aload_n 0, 1) := by decide +kernel
theorem dX7_becomeNew_24 : decode cX7_becomeNew 24 = .ok (.getfield 18, 3) := by decide +kernel
theorem dX7_becomeNew_27 : decode cX7_becomeNew 27 = .ok (.iload_n 1, 1) := by decide +kernel
theorem dX7_becomeNew_28 : decode cX7_becomeNew 28 = .ok (.iconst 0, 1) := by decide +kernel
theorem dX7_becomeNew_29 : decode cX7_becomeNew 29 = .ok (.iastore, 1) := by decide +kernel
theorem dX7_becomeNew_30 : decode cX7_becomeNew 30 = .ok (.aload_n 0, 1) := by decide +kernel
theorem dX7_becomeNew_31 : decode cX7_becomeNew 31 = .ok (.getfield 21, 3) := by decide +kernel
theorem dX7_becomeNew_34 : decode cX7_becomeNew 34 = .ok (.iload_n 1, 1) := by decide +kernel
theorem dX7_becomeNew_35 : decode cX7_becomeNew 35 = .ok (.iconst (-1), 1) := by decide +kernel
theorem dX7_becomeNew_36 : decode cX7_becomeNew 36 = .ok (.iastore, 1) := by decide +kernel
theorem dX7_becomeNew_37 : decode cX7_becomeNew 37 = .ok (.iinc 1 1, 3) := by decide +kernel
theorem dX7_becomeNew_40 : decode cX7_becomeNew 40 = .ok (.goto (-38), 3) := by decide +kernel
theorem dX7_becomeNew_43 : decode cX7_becomeNew 43 = .ok (.return_, 1) := by decide +kernel
theorem dX7_giveTo_0 : decode cX7_giveTo 0 = .ok (.iconst 0, 1) := by decide +kernel
theorem dX7_giveTo_1 : decode cX7_giveTo 1 = .ok (.iload_n 2, 1) := by decide +kernel
theorem dX7_giveTo_2 : decode cX7_giveTo 2 = .ok (.invokestatic 52, 3) := by decide +kernel
theorem dX7_giveTo_5 : decode cX7_giveTo 5 = .ok (.istore_n 3, 1) := by decide +kernel
theorem dX7_giveTo_6 : decode cX7_giveTo 6 = .ok (.iload_n 3, 1) := by decide +kernel
theorem dX7_giveTo_7 : decode cX7_giveTo 7 = .ok (.sipush 400, 3) := by decide +kernel
theorem dX7_giveTo_10 : decode cX7_giveTo 10 = .ok (.if_icmp .ge 16, 3) := by decide +kernel
theorem dX7_giveTo_13 : decode cX7_giveTo 13 = .ok (.aload_n 0, 1) := by decide +kernel
theorem dX7_giveTo_14 : decode cX7_giveTo 14 = .ok (.getfield 21, 3) := by decide +kernel
theorem dX7_giveTo_17 : decode cX7_giveTo 17 = .ok (.iload_n 3, 1) := by decide +kernel
theorem dX7_giveTo_18 : decode cX7_giveTo 18 = .ok (.iload_n 1, 1) := by decide +kernel
theorem dX7_giveTo_19 : decode cX7_giveTo 19 = .ok (.iastore, 1) := by decide +kernel
theorem dX7_giveTo_20 : decode cX7_giveTo 20 = .ok (.iinc 3 1, 3) := by decide +kernel
theorem dX7_giveTo_23 : decode cX7_giveTo 23 = .ok (.goto (-17), 3) := by decide +kernel
theorem dX7_giveTo_26 : decode cX7_giveTo 26 = .ok (.return_, 1) := by decide +kernel
theorem dX7_holderOn_0 : decode cX7_holderOn 0 = .ok (.iload_n 1, 1) := by decide +kernel
theorem dX7_holderOn_1 : decode cX7_holderOn 1 = .ok (.invokestatic 24, 3) := by decide +kernel
theorem dX7_holderOn_4 : decode cX7_holderOn 4 = .ok (.ifCond .eq 12, 3) := by decide +kernel
theorem dX7_holderOn_7 : decode cX7_holderOn 7 = .ok (.aload_n 0, 1) := by decide +kernel
theorem dX7_holderOn_8 : decode cX7_holderOn 8 = .ok (.getfield 21, 3) := by decide +kernel
theorem dX7_holderOn_11 : decode cX7_holderOn 11 = .ok (.iload_n 1, 1) := by decide +kernel
theorem dX7_holderOn_12 : decode cX7_holderOn 12 = .ok (.iaload, 1) := by decide +kernel
theorem dX7_holderOn_13 : decode cX7_holderOn 13 = .ok (.goto 4, 3) := by decide +kernel
theorem dX7_holderOn_16 : decode cX7_holderOn 16 = .ok (.iconst (-1), 1) := by decide +kernel
theorem dX7_holderOn_17 : decode cX7_holderOn 17 = .ok (.ireturn, 1) := by decide +kernel
theorem dX7_isCompared_0 : decode cX7_isCompared 0 = .ok (.iload_n 1, 1) := by decide +kernel
theorem dX7_isCompared_1 : decode cX7_isCompared 1 = .ok (.invokestatic 24, 3) := by decide +kernel
theorem dX7_isCompared_4 : decode cX7_isCompared 4 = .ok (.ifCond .eq 17, 3) := by decide +kernel
theorem dX7_isCompared_7 : decode cX7_isCompared 7 = .ok (.aload_n 0, 1) := by decide +kernel
theorem dX7_isCompared_8 : decode cX7_isCompared 8 = .ok (.getfield 15, 3) := by decide +kernel
theorem dX7_isCompared_11 : decode cX7_isCompared 11 = .ok (.iload_n 1, 1) := by decide +kernel
theorem dX7_isCompared_12 : decode cX7_isCompared 12 = .ok (.iaload, 1) := by decide +kernel
theorem dX7_isCompared_13 : decode cX7_isCompared 13 = .ok (.iconst (-1), 1) := by decide +kernel
theorem dX7_isCompared_14 : decode cX7_isCompared 14 = .ok (.if_icmp .eq 7, 3) := by decide +kernel
theorem dX7_isCompared_17 : decode cX7_isCompared 17 = .ok (.iconst 1, 1) := by decide +kernel
theorem dX7_isCompared_18 : decode cX7_isCompared 18 = .ok (.goto 4, 3) := by decide +kernel
theorem dX7_isCompared_21 : decode cX7_isCompared 21 = .ok (.iconst 0, 1) := by decide +kernel
theorem dX7_isCompared_22 : decode cX7_isCompared 22 = .ok (.ireturn, 1) := by decide +kernel
theorem dX7_isMarked_0 : decode cX7_isMarked 0 = .ok (.iload_n 1, 1) := by decide +kernel
theorem dX7_isMarked_1 : decode cX7_isMarked 1 = .ok (.invokestatic 24, 3) := by decide +kernel
theorem dX7_isMarked_4 : decode cX7_isMarked 4 = .ok (.ifCond .eq 18, 3) := by decide +kernel
theorem dX7_isMarked_7 : decode cX7_isMarked 7 = .ok (.aload_n 0, 1) := by decide +kernel
theorem dX7_isMarked_8 : decode cX7_isMarked 8 = .ok (.getfield 18, 3) := by decide +kernel
theorem dX7_isMarked_11 : decode cX7_isMarked 11 = .ok (.iload_n 1, 1) := by decide +kernel
theorem dX7_isMarked_12 : decode cX7_isMarked 12 = .ok (.iaload, 1) := by decide +kernel
theorem dX7_isMarked_13 : decode cX7_isMarked 13 = .ok (.iload_n 2, 1) := by decide +kernel
theorem dX7_isMarked_14 : decode cX7_isMarked 14 = .ok (.iand, 1) := by decide +kernel
theorem dX7_isMarked_15 : decode cX7_isMarked 15 = .ok (.ifCond .eq 7, 3) := by decide +kernel
theorem dX7_isMarked_18 : decode cX7_isMarked 18 = .ok (.iconst 1, 1) := by decide +kernel
theorem dX7_isMarked_19 : decode cX7_isMarked 19 = .ok (.goto 4, 3) := by decide +kernel
theorem dX7_isMarked_22 : decode cX7_isMarked 22 = .ok (.iconst 0, 1) := by decide +kernel
theorem dX7_isMarked_23 : decode cX7_isMarked 23 = .ok (.ireturn, 1) := by decide +kernel
theorem dX7_tell_0 : decode cX7_tell 0 = .ok (.iload_n 1, 1) := by decide +kernel
theorem dX7_tell_1 : decode cX7_tell 1 = .ok (.invokestatic 24, 3) := by decide +kernel
theorem dX7_tell_4 : decode cX7_tell 4 = .ok (.ifCond .eq 17, 3) := by decide +kernel
theorem dX7_tell_7 : decode cX7_tell 7 = .ok (.aload_n 0, 1) := by decide +kernel
theorem dX7_tell_8 : decode cX7_tell 8 = .ok (.getfield 9, 3) := by decide +kernel
theorem dX7_tell_11 : decode cX7_tell 11 = .ok (.iload_n 1, 1) := by decide +kernel
theorem dX7_tell_12 : decode cX7_tell 12 = .ok (.iload_n 2, 1) := by decide +kernel
theorem dX7_tell_13 : decode cX7_tell 13 = .ok (.iastore, 1) := by decide +kernel
theorem dX7_tell_14 : decode cX7_tell 14 = .ok (.aload_n 0, 1) := by decide +kernel
theorem dX7_tell_15 : decode cX7_tell 15 = .ok (.getfield 15, 3) := by decide +kernel
theorem dX7_tell_18 : decode cX7_tell 18 = .ok (.iload_n 1, 1) := by decide +kernel
theorem dX7_tell_19 : decode cX7_tell 19 = .ok (.iload_n 3, 1) := by decide +kernel
theorem dX7_tell_20 : decode cX7_tell 20 = .ok (.iastore, 1) := by decide +kernel
theorem dX7_tell_21 : decode cX7_tell 21 = .ok (.return_, 1) := by decide +kernel
