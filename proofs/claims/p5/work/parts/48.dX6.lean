theorem dX6_add_0 : decode cX6_add 0 = .ok (.aload_n 0, 1) := by decide +kernel
theorem dX6_add_1 : decode cX6_add 1 = .ok (.getfield 15, 3) := by decide +kernel
theorem dX6_add_4 : decode cX6_add 4 = .ok (.bipush 120, 2) := by decide +kernel
theorem dX6_add_6 : decode cX6_add 6 = .ok (.if_icmp .ge 23, 3) := by decide +kernel
theorem dX6_add_9 : decode cX6_add 9 = .ok (.aload_n 0, 1) := by decide +kernel
theorem dX6_add_10 : decode cX6_add 10 = .ok (.getfield 9, 3) := by decide +kernel
theorem dX6_add_13 : decode cX6_add 13 = .ok (.aload_n 0, 1) := by decide +kernel
theorem dX6_add_14 : decode cX6_add 14 = .ok (.getfield 15, 3) := by decide +kernel
theorem dX6_add_17 : decode cX6_add 17 = .ok (.iload_n 1, 1) := by decide +kernel
theorem dX6_add_18 : decode cX6_add 18 = .ok (.iastore, 1) := by decide +kernel
theorem dX6_add_19 : decode cX6_add 19 = .ok (.aload_n 0, 1) := by decide +kernel
theorem dX6_add_20 : decode cX6_add 20 = .ok (.dup, 1) := by decide +kernel
theorem dX6_add_21 : decode cX6_add 21 = .ok (.getfield 15, 3) := by decide +kernel
theorem dX6_add_24 : decode cX6_add 24 = .ok (.iconst 1, 1) := by decide +kernel
theorem dX6_add_25 : decode cX6_add 25 = .ok (.iadd, 1) := by decide +kernel
theorem dX6_add_26 : decode cX6_add 26 = .ok (.putfield 15, 3) := by decide +kernel
theorem dX6_add_29 : decode cX6_add 29 = .ok (.return_, 1) := by decide +kernel
theorem dX6_isDigit_0 : decode cX6_isDigit 0 = .ok (.iload_n 0, 1) := by decide +kernel
theorem dX6_isDigit_1 : decode cX6_isDigit 1 = .ok (.bipush 48, 2) := by decide +kernel
theorem dX6_isDigit_3 : decode cX6_isDigit 3 = .ok (.if_icmp .lt 13, 3) := by decide +kernel
theorem dX6_isDigit_6 : decode cX6_isDigit 6 = .ok (.iload_n 0, 1) := by decide +kernel
theorem dX6_isDigit_7 : decode cX6_isDigit 7 = .ok (.bipush 57, 2) := by decide +kernel
theorem dX6_isDigit_9 : decode cX6_isDigit 9 = .ok (.if_icmp .gt 7, 3) := by decide +kernel
theorem dX6_isDigit_12 : decode cX6_isDigit 12 = .ok (.iconst 1, 1) := by decide +kernel
theorem dX6_isDigit_13 : decode cX6_isDigit 13 = .ok (.goto 4, 3) := by decide +kernel
theorem dX6_isDigit_16 : decode cX6_isDigit 16 = .ok (.iconst 0, 1) := by decide +kernel
theorem dX6_isDigit_17 : decode cX6_isDigit 17 = .ok (.ireturn, 1) := by decide +kernel
theorem dX6_isLetter_0 : decode cX6_isLetter 0 = .ok (.iload_n 0, 1) := by decide +kernel
theorem dX6_isLetter_1 : decode cX6_isLetter 1 = .ok (.bipush 97, 2) := by decide +kernel
theorem dX6_isLetter_3 : decode cX6_isLetter 3 = .ok (.if_icmp .lt 13, 3) := by decide +kernel
theorem dX6_isLetter_6 : decode cX6_isLetter 6 = .ok (.iload_n 0, 1) := by decide +kernel
theorem dX6_isLetter_7 : decode cX6_isLetter 7 = .ok (.bipush 122, 2) := by decide +kernel
theorem dX6_isLetter_9 : decode cX6_isLetter 9 = .ok (.if_icmp .gt 7, 3) := by decide +kernel
theorem dX6_isLetter_12 : decode cX6_isLetter 12 = .ok (.iconst 1, 1) := by decide +kernel
theorem dX6_isLetter_13 : decode cX6_isLetter 13 = .ok (.goto 4, 3) := by decide +kernel
theorem dX6_isLetter_16 : decode cX6_isLetter 16 = .ok (.iconst 0, 1) := by decide +kernel
theorem dX6_isLetter_17 : decode cX6_isLetter 17 = .ok (.ireturn, 1) := by decide +kernel
theorem dX6_isSign_0 : decode cX6_isSign 0 = .ok (.iload_n 0, 1) := by decide +kernel
theorem dX6_isSign_1 : decode cX6_isSign 1 = .ok (.tableswitch 109 40 62 #[107, 107, 107, 107, 109, 107, 109, 107, 109, 109, 109, 109, 109, 109, 109, 109, 109, 109, 109, 109, 107, 107, 107], 107) := by decide +kernel
theorem dX6_isSign_108 : decode cX6_isSign 108 = .ok (.iconst 1, 1) := by decide +kernel
theorem dX6_isSign_109 : decode cX6_isSign 109 = .ok (.ireturn, 1) := by decide +kernel
theorem dX6_isSign_110 : decode cX6_isSign 110 = .ok (.iconst 0, 1) := by decide +kernel
theorem dX6_isSign_111 : decode cX6_isSign 111 = .ok (.ireturn, 1) := by decide +kernel
theorem dX6_takeDigits_0 : decode cX6_takeDigits 0 = .ok (.aload_n 0, 1) := by decide +kernel
theorem dX6_takeDigits_1 : decode cX6_takeDigits 1 = .ok (.iconst 0, 1) := by decide +kernel
theorem dX6_takeDigits_2 : decode cX6_takeDigits 2 = .ok (.putfield 41, 3) := by decide +kernel
theorem dX6_takeDigits_5 : decode cX6_takeDigits 5 = .ok (.aload_n 0, 1) := by decide +kernel
theorem dX6_takeDigits_6 : decode cX6_takeDigits 6 = .ok (.getfield 32, 3) := by decide +kernel
theorem dX6_takeDigits_9 : decode cX6_takeDigits 9 = .ok (.aload_n 0, 1) := by decide +kernel
theorem dX6_takeDigits_10 : decode cX6_takeDigits 10 = .ok (.getfield 15, 3) := by decide +kernel
theorem dX6_takeDigits_13 : decode cX6_takeDigits 13 = .ok (.if_icmp .ge 55, 3) := by decide +kernel
theorem dX6_takeDigits_16 : decode cX6_takeDigits 16 = .ok (.aload_n 0, 1) := by decide +kernel
theorem dX6_takeDigits_17 : decode cX6_takeDigits 17 = .ok (.getfield 9, 3) := by decide +kernel
theorem dX6_takeDigits_20 : decode cX6_takeDigits 20 = .ok (.aload_n 0, 1) := by decide +kernel
theorem dX6_takeDigits_21 : decode cX6_takeDigits 21 = .ok (.getfield 32, 3) := by decide +kernel
theorem dX6_takeDigits_24 : decode cX6_takeDigits 24 = .ok (.iaload, 1) := by decide +kernel
theorem dX6_takeDigits_25 : decode cX6_takeDigits 25 = .ok (.invokestatic 83, 3) := by decide +kernel
theorem dX6_takeDigits_28 : decode cX6_takeDigits 28 = .ok (.ifCond .eq 40, 3) := by decide +kernel
theorem dX6_takeDigits_31 : decode cX6_takeDigits 31 = .ok (.aload_n 0, 1) := by decide +kernel
theorem dX6_takeDigits_32 : decode cX6_takeDigits 32 = .ok (.bipush 10, 2) := by decide +kernel
theorem dX6_takeDigits_34 : decode cX6_takeDigits 34 = .ok (.aload_n 0, 1) := by decide +kernel
theorem dX6_takeDigits_35 : decode cX6_takeDigits 35 = .ok (.getfield 41, 3) := by decide +kernel
theorem dX6_takeDigits_38 : decode cX6_takeDigits 38 = .ok (.imul, 1) := by decide +kernel
theorem dX6_takeDigits_39 : decode cX6_takeDigits 39 = .ok (.aload_n 0, 1) := by decide +kernel
theorem dX6_takeDigits_40 : decode cX6_takeDigits 40 = .ok (.getfield 9, 3) := by decide +kernel
theorem dX6_takeDigits_43 : decode cX6_takeDigits 43 = .ok (.aload_n 0, 1) := by decide +kernel
theorem dX6_takeDigits_44 : decode cX6_takeDigits 44 = .ok (.getfield 32, 3) := by decide +kernel
theorem dX6_takeDigits_47 : decode cX6_takeDigits 47 = .ok (.iaload, 1) := by decide +kernel
theorem dX6_takeDigits_48 : decode cX6_takeDigits 48 = .ok (.iadd, 1) := by decide +kernel
theorem dX6_takeDigits_49 : decode cX6_takeDigits 49 = .ok (.bipush 48, 2) := by decide +kernel
theorem dX6_takeDigits_51 : decode cX6_takeDigits 51 = .ok (.isub, 1) := by decide +kernel
theorem dX6_takeDigits_52 : decode cX6_takeDigits 52 = .ok (.putfield 41, 3) := by decide +kernel
theorem dX6_takeDigits_55 : decode cX6_takeDigits 55 = .ok (.aload_n 0, 1) := by decide +kernel
theorem dX6_takeDigits_56 : decode cX6_takeDigits 56 = .ok (.dup, 1) := by decide +kernel
theorem dX6_takeDigits_57 : decode cX6_takeDigits 57 = .ok (.getfield 32, 3) := by decide +kernel
theorem dX6_takeDigits_60 : decode cX6_takeDigits 60 = .ok (.iconst 1, 1) := by decide +kernel
theorem dX6_takeDigits_61 : decode cX6_takeDigits 61 = .ok (.iadd, 1) := by decide +kernel
theorem dX6_takeDigits_62 : decode cX6_takeDigits 62 = .ok (.putfield 32, 3) := by decide +kernel
theorem dX6_takeDigits_65 : decode cX6_takeDigits 65 = .ok (.goto (-60), 3) := by decide +kernel
theorem dX6_takeDigits_68 : decode cX6_takeDigits 68 = .ok (.aload_n 0, 1) := by decide +kernel
theorem dX6_takeDigits_69 : decode cX6_takeDigits 69 = .ok (.aload_n 0, 1) := by decide +kernel
theorem dX6_takeDigits_70 : decode cX6_takeDigits 70 = .ok (.getfield 32, 3) := by decide +kernel
theorem dX6_takeDigits_73 : decode cX6_takeDigits 73 = .ok (.aload_n 0, 1) := by decide +kernel
theorem dX6_takeDigits_74 : decode cX6_takeDigits 74 = .ok (.getfield 38, 3) := by decide +kernel
theorem dX6_takeDigits_77 : decode cX6_takeDigits 77 = .ok (.isub, 1) := by decide +kernel
theorem dX6_takeDigits_78 : decode cX6_takeDigits 78 = .ok (.iconst 5, 1) := by decide +kernel
theorem dX6_takeDigits_79 : decode cX6_takeDigits 79 = .ok (.if_icmp .gt 7, 3) := by decide +kernel
theorem dX6_takeDigits_82 : decode cX6_takeDigits 82 = .ok (.iconst 2, 1) := by decide +kernel
theorem dX6_takeDigits_83 : decode cX6_takeDigits 83 = .ok (.goto 4, 3) := by decide +kernel
theorem dX6_takeDigits_86 : decode cX6_takeDigits 86 = .ok (.iconst 1, 1) := by decide +kernel
theorem dX6_takeDigits_87 : decode cX6_takeDigits 87 = .ok (.putfield 35, 3) := by decide +kernel
theorem dX6_takeDigits_90 : decode cX6_takeDigits 90 = .ok (.return_, 1) := by decide +kernel
