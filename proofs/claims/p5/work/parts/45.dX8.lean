theorem dX8_fitsKind_0 : decode cX8_fitsKind 0 = .ok (.iload_n 0, 1) := by decide +kernel
theorem dX8_fitsKind_1 : decode cX8_fitsKind 1 = .ok (.ifCond .ne 7, 3) := by decide +kernel
theorem dX8_fitsKind_4 : decode cX8_fitsKind 4 = .ok (.iload_n 1, 1) := by decide +kernel
theorem dX8_fitsKind_5 : decode cX8_fitsKind 5 = .ok (.ifCond .eq 22, 3) := by decide +kernel
theorem dX8_fitsKind_8 : decode cX8_fitsKind 8 = .ok (.iload_n 0, 1) := by decide +kernel
theorem dX8_fitsKind_9 : decode cX8_fitsKind 9 = .ok (.iconst 1, 1) := by decide +kernel
theorem dX8_fitsKind_10 : decode cX8_fitsKind 10 = .ok (.if_icmp .ne 12, 3) := by decide +kernel
theorem dX8_fitsKind_13 : decode cX8_fitsKind 13 = .ok (.iload_n 1, 1) := by decide +kernel
theorem dX8_fitsKind_14 : decode cX8_fitsKind 14 = .ok (.bipush 50, 2) := by decide +kernel
theorem dX8_fitsKind_16 : decode cX8_fitsKind 16 = .ok (.invokestatic 88, 3) := by decide +kernel
theorem dX8_fitsKind_19 : decode cX8_fitsKind 19 = .ok (.ifCond .ne 8, 3) := by decide +kernel
theorem dX8_fitsKind_22 : decode cX8_fitsKind 22 = .ok (.iload_n 0, 1) := by decide +kernel
theorem dX8_fitsKind_23 : decode cX8_fitsKind 23 = .ok (.iconst 2, 1) := by decide +kernel
theorem dX8_fitsKind_24 : decode cX8_fitsKind 24 = .ok (.if_icmp .ne 7, 3) := by decide +kernel
theorem dX8_fitsKind_27 : decode cX8_fitsKind 27 = .ok (.iconst 1, 1) := by decide +kernel
theorem dX8_fitsKind_28 : decode cX8_fitsKind 28 = .ok (.goto 4, 3) := by decide +kernel
theorem dX8_fitsKind_31 : decode cX8_fitsKind 31 = .ok (.iconst 0, 1) := by decide +kernel
theorem dX8_fitsKind_32 : decode cX8_fitsKind 32 = .ok (.ireturn, 1) := by decide +kernel
theorem dX8_isDay_0 : decode cX8_isDay 0 = .ok (.iload_n 0, 1) := by decide +kernel
theorem dX8_isDay_1 : decode cX8_isDay 1 = .ok (.ifCond .lt 14, 3) := by decide +kernel
theorem dX8_isDay_4 : decode cX8_isDay 4 = .ok (.iload_n 0, 1) := by decide +kernel
theorem dX8_isDay_5 : decode cX8_isDay 5 = .ok (.sipush 400, 3) := by decide +kernel
theorem dX8_isDay_8 : decode cX8_isDay 8 = .ok (.if_icmp .ge 7, 3) := by decide +kernel
theorem dX8_isDay_11 : decode cX8_isDay 11 = .ok (.iconst 1, 1) := by decide +kernel
theorem dX8_isDay_12 : decode cX8_isDay 12 = .ok (.goto 4, 3) := by decide +kernel
theorem dX8_isDay_15 : decode cX8_isDay 15 = .ok (.iconst 0, 1) := by decide +kernel
theorem dX8_isDay_16 : decode cX8_isDay 16 = .ok (.ireturn, 1) := by decide +kernel
theorem dX8_isKnowledge_0 : decode cX8_isKnowledge 0 = .ok (.iload_n 0, 1) := by decide +kernel
theorem dX8_isKnowledge_1 : decode cX8_isKnowledge 1 = .ok (.iconst (-1), 1) := by decide +kernel
theorem dX8_isKnowledge_2 : decode cX8_isKnowledge 2 = .ok (.if_icmp .eq 10, 3) := by decide +kernel
theorem dX8_isKnowledge_5 : decode cX8_isKnowledge 5 = .ok (.iload_n 0, 1) := by decide +kernel
theorem dX8_isKnowledge_6 : decode cX8_isKnowledge 6 = .ok (.invokestatic 84, 3) := by decide +kernel
theorem dX8_isKnowledge_9 : decode cX8_isKnowledge 9 = .ok (.ifCond .eq 7, 3) := by decide +kernel
theorem dX8_isKnowledge_12 : decode cX8_isKnowledge 12 = .ok (.iconst 1, 1) := by decide +kernel
theorem dX8_isKnowledge_13 : decode cX8_isKnowledge 13 = .ok (.goto 4, 3) := by decide +kernel
theorem dX8_isKnowledge_16 : decode cX8_isKnowledge 16 = .ok (.iconst 0, 1) := by decide +kernel
theorem dX8_isKnowledge_17 : decode cX8_isKnowledge 17 = .ok (.ireturn, 1) := by decide +kernel
theorem dX8_isPlace_0 : decode cX8_isPlace 0 = .ok (.iload_n 0, 1) := by decide +kernel
theorem dX8_isPlace_1 : decode cX8_isPlace 1 = .ok (.ifCond .lt 13, 3) := by decide +kernel
theorem dX8_isPlace_4 : decode cX8_isPlace 4 = .ok (.iload_n 0, 1) := by decide +kernel
theorem dX8_isPlace_5 : decode cX8_isPlace 5 = .ok (.bipush 16, 2) := by decide +kernel
theorem dX8_isPlace_7 : decode cX8_isPlace 7 = .ok (.if_icmp .ge 7, 3) := by decide +kernel
theorem dX8_isPlace_10 : decode cX8_isPlace 10 = .ok (.iconst 1, 1) := by decide +kernel
theorem dX8_isPlace_11 : decode cX8_isPlace 11 = .ok (.goto 4, 3) := by decide +kernel
theorem dX8_isPlace_14 : decode cX8_isPlace 14 = .ok (.iconst 0, 1) := by decide +kernel
theorem dX8_isPlace_15 : decode cX8_isPlace 15 = .ok (.ireturn, 1) := by decide +kernel
theorem dX8_isShip_0 : decode cX8_isShip 0 = .ok (.iload_n 0, 1) := by decide +kernel
theorem dX8_isShip_1 : decode cX8_isShip 1 = .ok (.ifCond .lt 12, 3) := by decide +kernel
theorem dX8_isShip_4 : decode cX8_isShip 4 = .ok (.iload_n 0, 1) := by decide +kernel
theorem dX8_isShip_5 : decode cX8_isShip 5 = .ok (.iconst 5, 1) := by decide +kernel
theorem dX8_isShip_6 : decode cX8_isShip 6 = .ok (.if_icmp .ge 7, 3) := by decide +kernel
theorem dX8_isShip_9 : decode cX8_isShip 9 = .ok (.iconst 1, 1) := by decide +kernel
theorem dX8_isShip_10 : decode cX8_isShip 10 = .ok (.goto 4, 3) := by decide +kernel
theorem dX8_isShip_13 : decode cX8_isShip 13 = .ok (.iconst 0, 1) := by decide +kernel
theorem dX8_isShip_14 : decode cX8_isShip 14 = .ok (.ireturn, 1) := by decide +kernel
theorem dX8_isStretch_0 : decode cX8_isStretch 0 = .ok (.iload_n 0, 1) := by decide +kernel
theorem dX8_isStretch_1 : decode cX8_isStretch 1 = .ok (.invokestatic 84, 3) := by decide +kernel
theorem dX8_isStretch_4 : decode cX8_isStretch 4 = .ok (.ifCond .eq 27, 3) := by decide +kernel
theorem dX8_isStretch_7 : decode cX8_isStretch 7 = .ok (.iload_n 1, 1) := by decide +kernel
theorem dX8_isStretch_8 : decode cX8_isStretch 8 = .ok (.invokestatic 84, 3) := by decide +kernel
theorem dX8_isStretch_11 : decode cX8_isStretch 11 = .ok (.ifCond .eq 20, 3) := by decide +kernel
theorem dX8_isStretch_14 : decode cX8_isStretch 14 = .ok (.iload_n 0, 1) := by decide +kernel
theorem dX8_isStretch_15 : decode cX8_isStretch 15 = .ok (.iload_n 1, 1) := by decide +kernel
theorem dX8_isStretch_16 : decode cX8_isStretch 16 = .ok (.if_icmp .ge 15, 3) := by decide +kernel
theorem dX8_isStretch_19 : decode cX8_isStretch 19 = .ok (.iload_n 1, 1) := by decide +kernel
theorem dX8_isStretch_20 : decode cX8_isStretch 20 = .ok (.iload_n 0, 1) := by decide +kernel
theorem dX8_isStretch_21 : decode cX8_isStretch 21 = .ok (.isub, 1) := by decide +kernel
theorem dX8_isStretch_22 : decode cX8_isStretch 22 = .ok (.bipush 60, 2) := by decide +kernel
theorem dX8_isStretch_24 : decode cX8_isStretch 24 = .ok (.if_icmp .gt 7, 3) := by decide +kernel
theorem dX8_isStretch_27 : decode cX8_isStretch 27 = .ok (.iconst 1, 1) := by decide +kernel
theorem dX8_isStretch_28 : decode cX8_isStretch 28 = .ok (.goto 4, 3) := by decide +kernel
theorem dX8_isStretch_31 : decode cX8_isStretch 31 = .ok (.iconst 0, 1) := by decide +kernel
theorem dX8_isStretch_32 : decode cX8_isStretch 32 = .ok (.ireturn, 1) := by decide +kernel
theorem dX8_isWithin_0 : decode cX8_isWithin 0 = .ok (.iload_n 0, 1) := by decide +kernel
theorem dX8_isWithin_1 : decode cX8_isWithin 1 = .ok (.iload_n 1, 1) := by decide +kernel
theorem dX8_isWithin_2 : decode cX8_isWithin 2 = .ok (.ineg, 1) := by decide +kernel
theorem dX8_isWithin_3 : decode cX8_isWithin 3 = .ok (.if_icmp .lt 12, 3) := by decide +kernel
theorem dX8_isWithin_6 : decode cX8_isWithin 6 = .ok (.iload_n 0, 1) := by decide +kernel
theorem dX8_isWithin_7 : decode cX8_isWithin 7 = .ok (.iload_n 1, 1) := by decide +kernel
theorem dX8_isWithin_8 : decode cX8_isWithin 8 = .ok (.if_icmp .gt 7, 3) := by decide +kernel
theorem dX8_isWithin_11 : decode cX8_isWithin 11 = .ok (.iconst 1, 1) := by decide +kernel
theorem dX8_isWithin_12 : decode cX8_isWithin 12 = .ok (.goto 4, 3) := by decide +kernel
theorem dX8_isWithin_15 : decode cX8_isWithin 15 = .ok (.iconst 0, 1) := by decide +kernel
theorem dX8_isWithin_16 : decode cX8_isWithin 16 = .ok (.ireturn, 1) := by decide +kernel
