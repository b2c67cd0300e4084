section
-- ===== PART A: goes FIRST, ahead of the names: the tables' words, and 'selects' of the private methods out of them =====
/-- a private method of a class that the tables say can be made, by its rows of tables_1 -/
def lw_okq (q : MethodName × Nat) : Prop := (q.1.cls ≠ "java/lang/invoke/MethodHandle" ∧ q.1.cls ≠ "java/lang/invoke/VarHandle") ∧ Cond.instantiable q.1.cls q.2 ∈ tables_1 ∧ Cond.privateMethod q.1 ∈ tables_1 ∧ Cond.instanceMethod q.1 ∈ tables_1
theorem lw_p0 : lw_okq (⟨"SeaWatches", "bringWatch", "(I)V"⟩, 14) := ⟨⟨by decide +kernel, by decide +kernel⟩, List.mem_of_getElem? (i := 17) (by decide +kernel), List.mem_of_getElem? (i := 340) (by decide +kernel), List.mem_of_getElem? (i := 341) (by decide +kernel)⟩
theorem lw_p1 : lw_okq (⟨"SeaWatches", "watchAt", "(I)LSeaWatches$Watch;"⟩, 14) := ⟨⟨by decide +kernel, by decide +kernel⟩, List.mem_of_getElem? (i := 17) (by decide +kernel), List.mem_of_getElem? (i := 370) (by decide +kernel), List.mem_of_getElem? (i := 371) (by decide +kernel)⟩
theorem lw_p2 : lw_okq (⟨"SeaWatches", "isPast", "(I)Z"⟩, 14) := ⟨⟨by decide +kernel, by decide +kernel⟩, List.mem_of_getElem? (i := 17) (by decide +kernel), List.mem_of_getElem? (i := 392) (by decide +kernel), List.mem_of_getElem? (i := 393) (by decide +kernel)⟩
theorem lw_p3 : lw_okq (⟨"SeaWatches", "lackAt", "(I)I"⟩, 14) := ⟨⟨by decide +kernel, by decide +kernel⟩, List.mem_of_getElem? (i := 17) (by decide +kernel), List.mem_of_getElem? (i := 397) (by decide +kernel), List.mem_of_getElem? (i := 398) (by decide +kernel)⟩
theorem lw_p4 : lw_okq (⟨"SeaWatches", "markOn", "(III)I"⟩, 14) := ⟨⟨by decide +kernel, by decide +kernel⟩, List.mem_of_getElem? (i := 17) (by decide +kernel), List.mem_of_getElem? (i := 448) (by decide +kernel), List.mem_of_getElem? (i := 449) (by decide +kernel)⟩
theorem lw_p5 : lw_okq (⟨"SeaWatches", "refusalOfStretch", "(III)I"⟩, 14) := ⟨⟨by decide +kernel, by decide +kernel⟩, List.mem_of_getElem? (i := 17) (by decide +kernel), List.mem_of_getElem? (i := 487) (by decide +kernel), List.mem_of_getElem? (i := 488) (by decide +kernel)⟩
theorem lw_p6 : lw_okq (⟨"SeaWatches", "fitLaw", "(III)V"⟩, 14) := ⟨⟨by decide +kernel, by decide +kernel⟩, List.mem_of_getElem? (i := 17) (by decide +kernel), List.mem_of_getElem? (i := 491) (by decide +kernel), List.mem_of_getElem? (i := 492) (by decide +kernel)⟩
theorem lw_p7 : lw_okq (⟨"SeaWatches", "warmthFor", "(II)I"⟩, 14) := ⟨⟨by decide +kernel, by decide +kernel⟩, List.mem_of_getElem? (i := 17) (by decide +kernel), List.mem_of_getElem? (i := 506) (by decide +kernel), List.mem_of_getElem? (i := 507) (by decide +kernel)⟩
theorem lw_p8 : lw_okq (⟨"SeaWatches$Fit", "setLaw", "(IJJJ)V"⟩, 15) := ⟨⟨by decide +kernel, by decide +kernel⟩, List.mem_of_getElem? (i := 78) (by decide +kernel), List.mem_of_getElem? (i := 518) (by decide +kernel), List.mem_of_getElem? (i := 519) (by decide +kernel)⟩
theorem lw_p9 : lw_okq (⟨"SeaWatches$Fit", "addProduct", "(JJ)V"⟩, 15) := ⟨⟨by decide +kernel, by decide +kernel⟩, List.mem_of_getElem? (i := 78) (by decide +kernel), List.mem_of_getElem? (i := 543) (by decide +kernel), List.mem_of_getElem? (i := 544) (by decide +kernel)⟩
theorem lw_p10 : lw_okq (⟨"SeaWatches$Rates", "middleOne", "()I"⟩, 4) := ⟨⟨by decide +kernel, by decide +kernel⟩, List.mem_of_getElem? (i := 56) (by decide +kernel), List.mem_of_getElem? (i := 567) (by decide +kernel), List.mem_of_getElem? (i := 568) (by decide +kernel)⟩
theorem lw_p11 : lw_okq (⟨"SeaWatches$Tape", "goOn", "()V"⟩, 8) := ⟨⟨by decide +kernel, by decide +kernel⟩, List.mem_of_getElem? (i := 130) (by decide +kernel), List.mem_of_getElem? (i := 592) (by decide +kernel), List.mem_of_getElem? (i := 593) (by decide +kernel)⟩
theorem lw_p12 : lw_okq (⟨"SeaWatches$Tape", "takeLetters", "()V"⟩, 8) := ⟨⟨by decide +kernel, by decide +kernel⟩, List.mem_of_getElem? (i := 130) (by decide +kernel), List.mem_of_getElem? (i := 599) (by decide +kernel), List.mem_of_getElem? (i := 600) (by decide +kernel)⟩
theorem lw_p13 : lw_okq (⟨"SeaWatches$Tape", "placeAmongWords", "()I"⟩, 8) := ⟨⟨by decide +kernel, by decide +kernel⟩, List.mem_of_getElem? (i := 130) (by decide +kernel), List.mem_of_getElem? (i := 603) (by decide +kernel), List.mem_of_getElem? (i := 604) (by decide +kernel)⟩
theorem lw_p14 : lw_okq (⟨"SeaWatches$Tape", "isOnTape", "(II)Z"⟩, 8) := ⟨⟨by decide +kernel, by decide +kernel⟩, List.mem_of_getElem? (i := 130) (by decide +kernel), List.mem_of_getElem? (i := 655) (by decide +kernel), List.mem_of_getElem? (i := 656) (by decide +kernel)⟩
theorem lw_p15 : lw_okq (⟨"SeaWatches$Tape", "takeDigits", "()V"⟩, 8) := ⟨⟨by decide +kernel, by decide +kernel⟩, List.mem_of_getElem? (i := 130) (by decide +kernel), List.mem_of_getElem? (i := 662) (by decide +kernel), List.mem_of_getElem? (i := 663) (by decide +kernel)⟩
def lw_privs_1 : List (MethodName × Nat) := [(⟨"SeaWatches", "bringWatch", "(I)V"⟩, 14), (⟨"SeaWatches", "watchAt", "(I)LSeaWatches$Watch;"⟩, 14), (⟨"SeaWatches", "isPast", "(I)Z"⟩, 14), (⟨"SeaWatches", "lackAt", "(I)I"⟩, 14), (⟨"SeaWatches", "markOn", "(III)I"⟩, 14), (⟨"SeaWatches", "refusalOfStretch", "(III)I"⟩, 14), (⟨"SeaWatches", "fitLaw", "(III)V"⟩, 14), (⟨"SeaWatches", "warmthFor", "(II)I"⟩, 14), (⟨"SeaWatches$Fit", "setLaw", "(IJJJ)V"⟩, 15), (⟨"SeaWatches$Fit", "addProduct", "(JJ)V"⟩, 15), (⟨"SeaWatches$Rates", "middleOne", "()I"⟩, 4), (⟨"SeaWatches$Tape", "goOn", "()V"⟩, 8), (⟨"SeaWatches$Tape", "takeLetters", "()V"⟩, 8), (⟨"SeaWatches$Tape", "placeAmongWords", "()I"⟩, 8), (⟨"SeaWatches$Tape", "isOnTape", "(II)Z"⟩, 8), (⟨"SeaWatches$Tape", "takeDigits", "()V"⟩, 8)]
theorem lw_r1 : ∀ q ∈ lw_privs_1, lw_okq q := List.forall_mem_cons.mpr ⟨lw_p0, List.forall_mem_cons.mpr ⟨lw_p1, List.forall_mem_cons.mpr ⟨lw_p2, List.forall_mem_cons.mpr ⟨lw_p3, List.forall_mem_cons.mpr ⟨lw_p4, List.forall_mem_cons.mpr ⟨lw_p5, List.forall_mem_cons.mpr ⟨lw_p6, List.forall_mem_cons.mpr ⟨lw_p7, List.forall_mem_cons.mpr ⟨lw_p8, List.forall_mem_cons.mpr ⟨lw_p9, List.forall_mem_cons.mpr ⟨lw_p10, List.forall_mem_cons.mpr ⟨lw_p11, List.forall_mem_cons.mpr ⟨lw_p12, List.forall_mem_cons.mpr ⟨lw_p13, List.forall_mem_cons.mpr ⟨lw_p14, List.forall_mem_cons.mpr ⟨lw_p15, fun _ h => absurd h List.not_mem_nil⟩⟩⟩⟩⟩⟩⟩⟩⟩⟩⟩⟩⟩⟩⟩⟩
theorem lw_p16 : lw_okq (⟨"SeaWatches$Tape", "readEither", "(I)Z"⟩, 8) := ⟨⟨by decide +kernel, by decide +kernel⟩, List.mem_of_getElem? (i := 130) (by decide +kernel), List.mem_of_getElem? (i := 669) (by decide +kernel), List.mem_of_getElem? (i := 670) (by decide +kernel)⟩
theorem lw_p17 : lw_okq (⟨"SeaWatches$Tape", "readBoth", "(I)Z"⟩, 8) := ⟨⟨by decide +kernel, by decide +kernel⟩, List.mem_of_getElem? (i := 130) (by decide +kernel), List.mem_of_getElem? (i := 673) (by decide +kernel), List.mem_of_getElem? (i := 674) (by decide +kernel)⟩
theorem lw_p18 : lw_okq (⟨"SeaWatches$Tape", "readNegation", "(I)Z"⟩, 8) := ⟨⟨by decide +kernel, by decide +kernel⟩, List.mem_of_getElem? (i := 130) (by decide +kernel), List.mem_of_getElem? (i := 677) (by decide +kernel), List.mem_of_getElem? (i := 678) (by decide +kernel)⟩
theorem lw_p19 : lw_okq (⟨"SeaWatches$Tape", "readComparison", "(I)Z"⟩, 8) := ⟨⟨by decide +kernel, by decide +kernel⟩, List.mem_of_getElem? (i := 130) (by decide +kernel), List.mem_of_getElem? (i := 681) (by decide +kernel), List.mem_of_getElem? (i := 682) (by decide +kernel)⟩
theorem lw_p20 : lw_okq (⟨"SeaWatches$Tape", "readSum", "(I)Z"⟩, 8) := ⟨⟨by decide +kernel, by decide +kernel⟩, List.mem_of_getElem? (i := 130) (by decide +kernel), List.mem_of_getElem? (i := 685) (by decide +kernel), List.mem_of_getElem? (i := 686) (by decide +kernel)⟩
theorem lw_p21 : lw_okq (⟨"SeaWatches$Tape", "readProduct", "(I)Z"⟩, 8) := ⟨⟨by decide +kernel, by decide +kernel⟩, List.mem_of_getElem? (i := 130) (by decide +kernel), List.mem_of_getElem? (i := 689) (by decide +kernel), List.mem_of_getElem? (i := 690) (by decide +kernel)⟩
theorem lw_p22 : lw_okq (⟨"SeaWatches$Tape", "readOperand", "(I)Z"⟩, 8) := ⟨⟨by decide +kernel, by decide +kernel⟩, List.mem_of_getElem? (i := 130) (by decide +kernel), List.mem_of_getElem? (i := 693) (by decide +kernel), List.mem_of_getElem? (i := 694) (by decide +kernel)⟩
theorem lw_p23 : lw_okq (⟨"SeaWatches$Tape", "readInBrackets", "(I)Z"⟩, 8) := ⟨⟨by decide +kernel, by decide +kernel⟩, List.mem_of_getElem? (i := 130) (by decide +kernel), List.mem_of_getElem? (i := 701) (by decide +kernel), List.mem_of_getElem? (i := 702) (by decide +kernel)⟩
theorem lw_p24 : lw_okq (⟨"SeaWatches", "hasTrial", "(III)Z"⟩, 14) := ⟨⟨by decide +kernel, by decide +kernel⟩, List.mem_of_getElem? (i := 17) (by decide +kernel), List.mem_of_getElem? (i := 713) (by decide +kernel), List.mem_of_getElem? (i := 714) (by decide +kernel)⟩
theorem lw_p25 : lw_okq (⟨"SeaWatches", "workOutTrial", "(II)I"⟩, 14) := ⟨⟨by decide +kernel, by decide +kernel⟩, List.mem_of_getElem? (i := 17) (by decide +kernel), List.mem_of_getElem? (i := 717) (by decide +kernel), List.mem_of_getElem? (i := 718) (by decide +kernel)⟩
theorem lw_p26 : lw_okq (⟨"SeaWatches", "warmthSpan", "(I)I"⟩, 14) := ⟨⟨by decide +kernel, by decide +kernel⟩, List.mem_of_getElem? (i := 17) (by decide +kernel), List.mem_of_getElem? (i := 747) (by decide +kernel), List.mem_of_getElem? (i := 748) (by decide +kernel)⟩
theorem lw_p27 : lw_okq (⟨"SeaWatches", "firstLack", "(III)I"⟩, 14) := ⟨⟨by decide +kernel, by decide +kernel⟩, List.mem_of_getElem? (i := 17) (by decide +kernel), List.mem_of_getElem? (i := 777) (by decide +kernel), List.mem_of_getElem? (i := 778) (by decide +kernel)⟩
theorem lw_p28 : lw_okq (⟨"SeaWatches", "isFitToSail", "(I)Z"⟩, 14) := ⟨⟨by decide +kernel, by decide +kernel⟩, List.mem_of_getElem? (i := 17) (by decide +kernel), List.mem_of_getElem? (i := 781) (by decide +kernel), List.mem_of_getElem? (i := 782) (by decide +kernel)⟩
theorem lw_p29 : lw_okq (⟨"SeaWatches", "gatherBeforeSailing", "(LSeaWatches$Watch;)V"⟩, 14) := ⟨⟨by decide +kernel, by decide +kernel⟩, List.mem_of_getElem? (i := 17) (by decide +kernel), List.mem_of_getElem? (i := 785) (by decide +kernel), List.mem_of_getElem? (i := 786) (by decide +kernel)⟩
theorem lw_p30 : lw_okq (⟨"SeaWatches", "board", "(III)V"⟩, 14) := ⟨⟨by decide +kernel, by decide +kernel⟩, List.mem_of_getElem? (i := 17) (by decide +kernel), List.mem_of_getElem? (i := 793) (by decide +kernel), List.mem_of_getElem? (i := 794) (by decide +kernel)⟩
theorem lw_p31 : lw_okq (⟨"SeaWatches$Ship", "isOf", "(II)Z"⟩, 11) := ⟨⟨by decide +kernel, by decide +kernel⟩, List.mem_of_getElem? (i := 223) (by decide +kernel), List.mem_of_getElem? (i := 834) (by decide +kernel), List.mem_of_getElem? (i := 835) (by decide +kernel)⟩
def lw_privs_2 : List (MethodName × Nat) := [(⟨"SeaWatches$Tape", "readEither", "(I)Z"⟩, 8), (⟨"SeaWatches$Tape", "readBoth", "(I)Z"⟩, 8), (⟨"SeaWatches$Tape", "readNegation", "(I)Z"⟩, 8), (⟨"SeaWatches$Tape", "readComparison", "(I)Z"⟩, 8), (⟨"SeaWatches$Tape", "readSum", "(I)Z"⟩, 8), (⟨"SeaWatches$Tape", "readProduct", "(I)Z"⟩, 8), (⟨"SeaWatches$Tape", "readOperand", "(I)Z"⟩, 8), (⟨"SeaWatches$Tape", "readInBrackets", "(I)Z"⟩, 8), (⟨"SeaWatches", "hasTrial", "(III)Z"⟩, 14), (⟨"SeaWatches", "workOutTrial", "(II)I"⟩, 14), (⟨"SeaWatches", "warmthSpan", "(I)I"⟩, 14), (⟨"SeaWatches", "firstLack", "(III)I"⟩, 14), (⟨"SeaWatches", "isFitToSail", "(I)Z"⟩, 14), (⟨"SeaWatches", "gatherBeforeSailing", "(LSeaWatches$Watch;)V"⟩, 14), (⟨"SeaWatches", "board", "(III)V"⟩, 14), (⟨"SeaWatches$Ship", "isOf", "(II)Z"⟩, 11)]
theorem lw_r2 : ∀ q ∈ lw_privs_2, lw_okq q := List.forall_mem_cons.mpr ⟨lw_p16, List.forall_mem_cons.mpr ⟨lw_p17, List.forall_mem_cons.mpr ⟨lw_p18, List.forall_mem_cons.mpr ⟨lw_p19, List.forall_mem_cons.mpr ⟨lw_p20, List.forall_mem_cons.mpr ⟨lw_p21, List.forall_mem_cons.mpr ⟨lw_p22, List.forall_mem_cons.mpr ⟨lw_p23, List.forall_mem_cons.mpr ⟨lw_p24, List.forall_mem_cons.mpr ⟨lw_p25, List.forall_mem_cons.mpr ⟨lw_p26, List.forall_mem_cons.mpr ⟨lw_p27, List.forall_mem_cons.mpr ⟨lw_p28, List.forall_mem_cons.mpr ⟨lw_p29, List.forall_mem_cons.mpr ⟨lw_p30, List.forall_mem_cons.mpr ⟨lw_p31, fun _ h => absurd h List.not_mem_nil⟩⟩⟩⟩⟩⟩⟩⟩⟩⟩⟩⟩⟩⟩⟩⟩
theorem lw_p32 : lw_okq (⟨"SeaWatches", "droppedOf", "(LSeaWatches$Ship;I)I"⟩, 14) := ⟨⟨by decide +kernel, by decide +kernel⟩, List.mem_of_getElem? (i := 17) (by decide +kernel), List.mem_of_getElem? (i := 848) (by decide +kernel), List.mem_of_getElem? (i := 849) (by decide +kernel)⟩
theorem lw_p33 : lw_okq (⟨"SeaWatches", "unload", "(LSeaWatches$Ship;II)V"⟩, 14) := ⟨⟨by decide +kernel, by decide +kernel⟩, List.mem_of_getElem? (i := 17) (by decide +kernel), List.mem_of_getElem? (i := 879) (by decide +kernel), List.mem_of_getElem? (i := 880) (by decide +kernel)⟩
theorem lw_p34 : lw_okq (⟨"SeaWatches$Dealing", "tryFrom", "(II)V"⟩, 9) := ⟨⟨by decide +kernel, by decide +kernel⟩, List.mem_of_getElem? (i := 185) (by decide +kernel), List.mem_of_getElem? (i := 906) (by decide +kernel), List.mem_of_getElem? (i := 907) (by decide +kernel)⟩
theorem lw_p35 : lw_okq (⟨"SeaWatches$Dealing", "keepIfBetter", "()V"⟩, 9) := ⟨⟨by decide +kernel, by decide +kernel⟩, List.mem_of_getElem? (i := 185) (by decide +kernel), List.mem_of_getElem? (i := 910) (by decide +kernel), List.mem_of_getElem? (i := 911) (by decide +kernel)⟩
theorem lw_p36 : lw_okq (⟨"SeaWatches$Dealing", "secondLeast", "(I)I"⟩, 9) := ⟨⟨by decide +kernel, by decide +kernel⟩, List.mem_of_getElem? (i := 185) (by decide +kernel), List.mem_of_getElem? (i := 914) (by decide +kernel), List.mem_of_getElem? (i := 915) (by decide +kernel)⟩
theorem lw_p37 : lw_okq (⟨"SeaWatches", "placesWith", "(I)I"⟩, 14) := ⟨⟨by decide +kernel, by decide +kernel⟩, List.mem_of_getElem? (i := 17) (by decide +kernel), List.mem_of_getElem? (i := 946) (by decide +kernel), List.mem_of_getElem? (i := 947) (by decide +kernel)⟩
theorem lw_p38 : lw_okq (⟨"SeaWatches", "shipsAtSea", "()I"⟩, 14) := ⟨⟨by decide +kernel, by decide +kernel⟩, List.mem_of_getElem? (i := 17) (by decide +kernel), List.mem_of_getElem? (i := 950) (by decide +kernel), List.mem_of_getElem? (i := 951) (by decide +kernel)⟩
theorem lw_p39 : lw_okq (⟨"SeaWatchesModel", "isWatch", "(I)Z"⟩, 68) := ⟨⟨by decide +kernel, by decide +kernel⟩, List.mem_of_getElem? (i := 954) (by decide +kernel), List.mem_of_getElem? (i := 1190) (by decide +kernel), List.mem_of_getElem? (i := 1191) (by decide +kernel)⟩
theorem lw_p40 : lw_okq (⟨"SeaWatchesModel", "holderNow", "(I)I"⟩, 68) := ⟨⟨by decide +kernel, by decide +kernel⟩, List.mem_of_getElem? (i := 954) (by decide +kernel), List.mem_of_getElem? (i := 1194) (by decide +kernel), List.mem_of_getElem? (i := 1195) (by decide +kernel)⟩
theorem lw_p41 : lw_okq (⟨"SeaWatchesModel", "watchAt", "(I)I"⟩, 68) := ⟨⟨by decide +kernel, by decide +kernel⟩, List.mem_of_getElem? (i := 954) (by decide +kernel), List.mem_of_getElem? (i := 1213) (by decide +kernel), List.mem_of_getElem? (i := 1214) (by decide +kernel)⟩
theorem lw_p42 : lw_okq (⟨"SeaWatchesModel", "errorOf", "(III)I"⟩, 68) := ⟨⟨by decide +kernel, by decide +kernel⟩, List.mem_of_getElem? (i := 954) (by decide +kernel), List.mem_of_getElem? (i := 1224) (by decide +kernel), List.mem_of_getElem? (i := 1225) (by decide +kernel)⟩
theorem lw_p43 : lw_okq (⟨"SeaWatchesModel", "rateOf", "(III)I"⟩, 68) := ⟨⟨by decide +kernel, by decide +kernel⟩, List.mem_of_getElem? (i := 954) (by decide +kernel), List.mem_of_getElem? (i := 1232) (by decide +kernel), List.mem_of_getElem? (i := 1233) (by decide +kernel)⟩
theorem lw_p44 : lw_okq (⟨"SeaWatchesModel", "ageOf", "(II)I"⟩, 68) := ⟨⟨by decide +kernel, by decide +kernel⟩, List.mem_of_getElem? (i := 954) (by decide +kernel), List.mem_of_getElem? (i := 1251) (by decide +kernel), List.mem_of_getElem? (i := 1252) (by decide +kernel)⟩
theorem lw_p45 : lw_okq (⟨"SeaWatchesModel", "asked", "(III)I"⟩, 68) := ⟨⟨by decide +kernel, by decide +kernel⟩, List.mem_of_getElem? (i := 954) (by decide +kernel), List.mem_of_getElem? (i := 1270) (by decide +kernel), List.mem_of_getElem? (i := 1271) (by decide +kernel)⟩
theorem lw_p46 : lw_okq (⟨"SeaWatchesModel", "sumUp", "(III)V"⟩, 68) := ⟨⟨by decide +kernel, by decide +kernel⟩, List.mem_of_getElem? (i := 954) (by decide +kernel), List.mem_of_getElem? (i := 1274) (by decide +kernel), List.mem_of_getElem? (i := 1275) (by decide +kernel)⟩
theorem lw_p47 : lw_okq (⟨"SeaWatchesModel", "warmthOf", "(II)I"⟩, 68) := ⟨⟨by decide +kernel, by decide +kernel⟩, List.mem_of_getElem? (i := 954) (by decide +kernel), List.mem_of_getElem? (i := 1278) (by decide +kernel), List.mem_of_getElem? (i := 1279) (by decide +kernel)⟩
def lw_privs_3 : List (MethodName × Nat) := [(⟨"SeaWatches", "droppedOf", "(LSeaWatches$Ship;I)I"⟩, 14), (⟨"SeaWatches", "unload", "(LSeaWatches$Ship;II)V"⟩, 14), (⟨"SeaWatches$Dealing", "tryFrom", "(II)V"⟩, 9), (⟨"SeaWatches$Dealing", "keepIfBetter", "()V"⟩, 9), (⟨"SeaWatches$Dealing", "secondLeast", "(I)I"⟩, 9), (⟨"SeaWatches", "placesWith", "(I)I"⟩, 14), (⟨"SeaWatches", "shipsAtSea", "()I"⟩, 14), (⟨"SeaWatchesModel", "isWatch", "(I)Z"⟩, 68), (⟨"SeaWatchesModel", "holderNow", "(I)I"⟩, 68), (⟨"SeaWatchesModel", "watchAt", "(I)I"⟩, 68), (⟨"SeaWatchesModel", "errorOf", "(III)I"⟩, 68), (⟨"SeaWatchesModel", "rateOf", "(III)I"⟩, 68), (⟨"SeaWatchesModel", "ageOf", "(II)I"⟩, 68), (⟨"SeaWatchesModel", "asked", "(III)I"⟩, 68), (⟨"SeaWatchesModel", "sumUp", "(III)V"⟩, 68), (⟨"SeaWatchesModel", "warmthOf", "(II)I"⟩, 68)]
theorem lw_r3 : ∀ q ∈ lw_privs_3, lw_okq q := List.forall_mem_cons.mpr ⟨lw_p32, List.forall_mem_cons.mpr ⟨lw_p33, List.forall_mem_cons.mpr ⟨lw_p34, List.forall_mem_cons.mpr ⟨lw_p35, List.forall_mem_cons.mpr ⟨lw_p36, List.forall_mem_cons.mpr ⟨lw_p37, List.forall_mem_cons.mpr ⟨lw_p38, List.forall_mem_cons.mpr ⟨lw_p39, List.forall_mem_cons.mpr ⟨lw_p40, List.forall_mem_cons.mpr ⟨lw_p41, List.forall_mem_cons.mpr ⟨lw_p42, List.forall_mem_cons.mpr ⟨lw_p43, List.forall_mem_cons.mpr ⟨lw_p44, List.forall_mem_cons.mpr ⟨lw_p45, List.forall_mem_cons.mpr ⟨lw_p46, List.forall_mem_cons.mpr ⟨lw_p47, fun _ h => absurd h List.not_mem_nil⟩⟩⟩⟩⟩⟩⟩⟩⟩⟩⟩⟩⟩⟩⟩⟩
theorem lw_p48 : lw_okq (⟨"SeaWatchesModel", "termsNow", "()I"⟩, 68) := ⟨⟨by decide +kernel, by decide +kernel⟩, List.mem_of_getElem? (i := 954) (by decide +kernel), List.mem_of_getElem? (i := 1288) (by decide +kernel), List.mem_of_getElem? (i := 1289) (by decide +kernel)⟩
theorem lw_p49 : lw_okq (⟨"SeaWatchesModel", "three", "()J"⟩, 68) := ⟨⟨by decide +kernel, by decide +kernel⟩, List.mem_of_getElem? (i := 954) (by decide +kernel), List.mem_of_getElem? (i := 1292) (by decide +kernel), List.mem_of_getElem? (i := 1293) (by decide +kernel)⟩
theorem lw_p50 : lw_okq (⟨"SeaWatchesModel", "two", "(JJ)J"⟩, 68) := ⟨⟨by decide +kernel, by decide +kernel⟩, List.mem_of_getElem? (i := 954) (by decide +kernel), List.mem_of_getElem? (i := 1296) (by decide +kernel), List.mem_of_getElem? (i := 1297) (by decide +kernel)⟩
theorem lw_p51 : lw_okq (⟨"SeaWatchesModel", "byThree", "(JJ)V"⟩, 68) := ⟨⟨by decide +kernel, by decide +kernel⟩, List.mem_of_getElem? (i := 954) (by decide +kernel), List.mem_of_getElem? (i := 1304) (by decide +kernel), List.mem_of_getElem? (i := 1305) (by decide +kernel)⟩
theorem lw_p52 : lw_okq (⟨"SeaWatchesModel", "byTwo", "(JJJJ)V"⟩, 68) := ⟨⟨by decide +kernel, by decide +kernel⟩, List.mem_of_getElem? (i := 954) (by decide +kernel), List.mem_of_getElem? (i := 1308) (by decide +kernel), List.mem_of_getElem? (i := 1309) (by decide +kernel)⟩
theorem lw_p53 : lw_okq (⟨"SeaWatchesModel", "findRates", "(III)V"⟩, 68) := ⟨⟨by decide +kernel, by decide +kernel⟩, List.mem_of_getElem? (i := 954) (by decide +kernel), List.mem_of_getElem? (i := 1323) (by decide +kernel), List.mem_of_getElem? (i := 1324) (by decide +kernel)⟩
theorem lw_p54 : lw_okq (⟨"SeaWatchesModel", "readRule", "(I)I"⟩, 68) := ⟨⟨by decide +kernel, by decide +kernel⟩, List.mem_of_getElem? (i := 954) (by decide +kernel), List.mem_of_getElem? (i := 1335) (by decide +kernel), List.mem_of_getElem? (i := 1336) (by decide +kernel)⟩
theorem lw_p55 : lw_okq (⟨"SeaWatchesModel", "advance", "(I)V"⟩, 68) := ⟨⟨by decide +kernel, by decide +kernel⟩, List.mem_of_getElem? (i := 954) (by decide +kernel), List.mem_of_getElem? (i := 1339) (by decide +kernel), List.mem_of_getElem? (i := 1340) (by decide +kernel)⟩
theorem lw_p56 : lw_okq (⟨"SeaWatchesModel", "opened", "()I"⟩, 68) := ⟨⟨by decide +kernel, by decide +kernel⟩, List.mem_of_getElem? (i := 954) (by decide +kernel), List.mem_of_getElem? (i := 1373) (by decide +kernel), List.mem_of_getElem? (i := 1374) (by decide +kernel)⟩
theorem lw_p57 : lw_okq (⟨"SeaWatchesModel", "lay", "(II)V"⟩, 68) := ⟨⟨by decide +kernel, by decide +kernel⟩, List.mem_of_getElem? (i := 954) (by decide +kernel), List.mem_of_getElem? (i := 1377) (by decide +kernel), List.mem_of_getElem? (i := 1378) (by decide +kernel)⟩
theorem lw_p58 : lw_okq (⟨"SeaWatchesModel", "done", "(I)V"⟩, 68) := ⟨⟨by decide +kernel, by decide +kernel⟩, List.mem_of_getElem? (i := 954) (by decide +kernel), List.mem_of_getElem? (i := 1381) (by decide +kernel), List.mem_of_getElem? (i := 1382) (by decide +kernel)⟩
theorem lw_p59 : lw_okq (⟨"SeaWatchesModel", "trialOf", "(III)I"⟩, 68) := ⟨⟨by decide +kernel, by decide +kernel⟩, List.mem_of_getElem? (i := 954) (by decide +kernel), List.mem_of_getElem? (i := 1392) (by decide +kernel), List.mem_of_getElem? (i := 1393) (by decide +kernel)⟩
theorem lw_p60 : lw_okq (⟨"SeaWatchesModel", "says", "(I)I"⟩, 68) := ⟨⟨by decide +kernel, by decide +kernel⟩, List.mem_of_getElem? (i := 954) (by decide +kernel), List.mem_of_getElem? (i := 1396) (by decide +kernel), List.mem_of_getElem? (i := 1397) (by decide +kernel)⟩
theorem lw_p61 : lw_okq (⟨"SeaWatchesModel", "hasTrial", "(III)Z"⟩, 68) := ⟨⟨by decide +kernel, by decide +kernel⟩, List.mem_of_getElem? (i := 954) (by decide +kernel), List.mem_of_getElem? (i := 1407) (by decide +kernel), List.mem_of_getElem? (i := 1408) (by decide +kernel)⟩
theorem lw_p62 : lw_okq (⟨"SeaWatchesModel", "maySail", "(I)Z"⟩, 68) := ⟨⟨by decide +kernel, by decide +kernel⟩, List.mem_of_getElem? (i := 954) (by decide +kernel), List.mem_of_getElem? (i := 1418) (by decide +kernel), List.mem_of_getElem? (i := 1419) (by decide +kernel)⟩
theorem lw_p63 : lw_okq (⟨"SeaWatchesModel", "goesTo", "(II)V"⟩, 68) := ⟨⟨by decide +kernel, by decide +kernel⟩, List.mem_of_getElem? (i := 954) (by decide +kernel), List.mem_of_getElem? (i := 1422) (by decide +kernel), List.mem_of_getElem? (i := 1423) (by decide +kernel)⟩
def lw_privs_4 : List (MethodName × Nat) := [(⟨"SeaWatchesModel", "termsNow", "()I"⟩, 68), (⟨"SeaWatchesModel", "three", "()J"⟩, 68), (⟨"SeaWatchesModel", "two", "(JJ)J"⟩, 68), (⟨"SeaWatchesModel", "byThree", "(JJ)V"⟩, 68), (⟨"SeaWatchesModel", "byTwo", "(JJJJ)V"⟩, 68), (⟨"SeaWatchesModel", "findRates", "(III)V"⟩, 68), (⟨"SeaWatchesModel", "readRule", "(I)I"⟩, 68), (⟨"SeaWatchesModel", "advance", "(I)V"⟩, 68), (⟨"SeaWatchesModel", "opened", "()I"⟩, 68), (⟨"SeaWatchesModel", "lay", "(II)V"⟩, 68), (⟨"SeaWatchesModel", "done", "(I)V"⟩, 68), (⟨"SeaWatchesModel", "trialOf", "(III)I"⟩, 68), (⟨"SeaWatchesModel", "says", "(I)I"⟩, 68), (⟨"SeaWatchesModel", "hasTrial", "(III)Z"⟩, 68), (⟨"SeaWatchesModel", "maySail", "(I)Z"⟩, 68), (⟨"SeaWatchesModel", "goesTo", "(II)V"⟩, 68)]
theorem lw_r4 : ∀ q ∈ lw_privs_4, lw_okq q := List.forall_mem_cons.mpr ⟨lw_p48, List.forall_mem_cons.mpr ⟨lw_p49, List.forall_mem_cons.mpr ⟨lw_p50, List.forall_mem_cons.mpr ⟨lw_p51, List.forall_mem_cons.mpr ⟨lw_p52, List.forall_mem_cons.mpr ⟨lw_p53, List.forall_mem_cons.mpr ⟨lw_p54, List.forall_mem_cons.mpr ⟨lw_p55, List.forall_mem_cons.mpr ⟨lw_p56, List.forall_mem_cons.mpr ⟨lw_p57, List.forall_mem_cons.mpr ⟨lw_p58, List.forall_mem_cons.mpr ⟨lw_p59, List.forall_mem_cons.mpr ⟨lw_p60, List.forall_mem_cons.mpr ⟨lw_p61, List.forall_mem_cons.mpr ⟨lw_p62, List.forall_mem_cons.mpr ⟨lw_p63, fun _ h => absurd h List.not_mem_nil⟩⟩⟩⟩⟩⟩⟩⟩⟩⟩⟩⟩⟩⟩⟩⟩
theorem lw_p64 : lw_okq (⟨"SeaWatchesModel", "work", "(II)I"⟩, 68) := ⟨⟨by decide +kernel, by decide +kernel⟩, List.mem_of_getElem? (i := 954) (by decide +kernel), List.mem_of_getElem? (i := 1443) (by decide +kernel), List.mem_of_getElem? (i := 1444) (by decide +kernel)⟩
theorem lw_p65 : lw_okq (⟨"SeaWatchesModel", "isWay", "(I)Z"⟩, 68) := ⟨⟨by decide +kernel, by decide +kernel⟩, List.mem_of_getElem? (i := 954) (by decide +kernel), List.mem_of_getElem? (i := 1465) (by decide +kernel), List.mem_of_getElem? (i := 1466) (by decide +kernel)⟩
theorem lw_p66 : lw_okq (⟨"SeaWatchesModel", "secondOf", "(I)I"⟩, 68) := ⟨⟨by decide +kernel, by decide +kernel⟩, List.mem_of_getElem? (i := 954) (by decide +kernel), List.mem_of_getElem? (i := 1469) (by decide +kernel), List.mem_of_getElem? (i := 1470) (by decide +kernel)⟩
def lw_privs_5 : List (MethodName × Nat) := [(⟨"SeaWatchesModel", "work", "(II)I"⟩, 68), (⟨"SeaWatchesModel", "isWay", "(I)Z"⟩, 68), (⟨"SeaWatchesModel", "secondOf", "(I)I"⟩, 68)]
theorem lw_r5 : ∀ q ∈ lw_privs_5, lw_okq q := List.forall_mem_cons.mpr ⟨lw_p64, List.forall_mem_cons.mpr ⟨lw_p65, List.forall_mem_cons.mpr ⟨lw_p66, fun _ h => absurd h List.not_mem_nil⟩⟩⟩
def lw_privs : List (MethodName × Nat) := lw_privs_1 ++ (lw_privs_2 ++ (lw_privs_3 ++ (lw_privs_4 ++ (lw_privs_5))))
def lw_tbl : List Cond := k2_sels lw_privs ++ tables_1
theorem lw_privs_ok : ∀ q ∈ lw_privs, lw_okq q := by
  show ∀ q ∈ lw_privs_1 ++ (lw_privs_2 ++ (lw_privs_3 ++ (lw_privs_4 ++ (lw_privs_5)))), lw_okq q
  exact List.forall_mem_append.mpr ⟨lw_r1, List.forall_mem_append.mpr ⟨lw_r2, List.forall_mem_append.mpr ⟨lw_r3, List.forall_mem_append.mpr ⟨lw_r4, lw_r5⟩⟩⟩⟩
end
section
/-! THE CLAIM OUT OF ONE WALK OF THE LAW'S BODY. Your part is whole_start (and what it stands on); all else here is the same for every law, but numbers. -/
def R_law : String := "SeaWatchesLaw"
def lw_P (b : Addr) (xs : List Int32) (args : Array Value) (s : State) : Prop := args = #[.ref b] ∧ s.IntsAt b xs ∧ xs.length ≤ 6 ∧ (Jvm.Cond.and given_1 narrow_1).before args s = true
def lw_Q (_ : Array Value) (s : State) (o : Outcome) (t : State) : Prop := o = .returned (some (.int 1)) ∧ Framed s o t [] 600000 7302250
def lw_Z (below : List Frame) (a : Array Value) (s : State) : State → Prop := fun t => ∃ o, t.status = .running ∧ Ended t below o ∧ lw_Q a s o t
/-- the law's own end, with 1 on the stack, nothing written that was there before, its room as the claim has it -/
theorem lw_ret {p : Program} {l : Launch} {e : Env} {s : State} {m : MethodId} {below : List Frame} {meth : Method} {c : Code} {b : Nat} (hx : p.tables.exec = Jvm.exec) (hb : c.code = code) (hr : meth.sig.returnType = ret) (hlocks : meth.locks = false) {pc : Nat} {H : Heap} {ls : Array Slot} (hdg : decode code pc = .ok (.ireturn, 1)) : W p l e room_1 s m #[Value.ref b] below meth c H [] 600000 7302250 (lw_Z below #[Value.ref b] s) (F0 m pc ls [.int 1]) := by
  intro T hT X
  obtain ⟨fs, hret, hrun, hended, hW, hframe⟩ := X.leave (v := some (.int 1)) (hlocks := hlocks) (fun h => by rw [hr] at h; cases h)
  have hmeth' : T.vm.method? m = some meth := X.method'
  refine ⟨T.setFrames fs, ?_, .returned (some (.int 1)), hrun, hended, rfl, ⟨_, rfl⟩, hW, hframe⟩
  jvm_step X.here [X.here.top, hx, hb, hdg, hmeth', hr, ret, narrow_b1]
  (try refine ⟨rfl, ?_⟩); (try refine ⟨rfl, ?_⟩)
  first | (intro acts; rw [hret _ acts rfl rfl rfl]) | rw [hret _ _ rfl rfl rfl]
  exact Steps.refl _
/-- what holds at the law's entry: the machine, the code, the tables' words (any of lw_tbl by 'hts w (by decide +kernel)'), the script of L ints xs at the cell b, what the Statement gives of the start (any of its parts by flat_of_before) -/
def lw_At (p : Program) (s : State) (m : MethodId) (meth : Method) (c : Code) (b L : Nat) (xs : Nat → Int32) : Prop :=
  p.tables.exec = Jvm.exec ∧ c.code = code ∧ meth.sig.returnType = ret ∧ c.maxLocals = 4 ∧ s.vm.findClass R_law = some m.cls ∧ (∀ w ∈ lw_tbl, w.before #[Value.ref b] s = true) ∧ va_X b L xs s s.heap ∧ b < s.heap.size ∧ meth.locks = false ∧ (Jvm.Cond.and given_1 narrow_1).before #[Value.ref b] s = true

def RX0 : String := "SeaWatches$Dealing"
def TX0 : u_T := fun k => match k with
  | 0 => ("SeaWatches$Dealing", "doubts", "[I", true)
  | 1 => ("SeaWatches$Dealing", "way", "[I", true)
  | 2 => ("SeaWatches$Dealing", "best", "[I", true)
  | 3 => ("SeaWatches$Dealing", "voyages", "[I", true)
  | 4 => ("SeaWatches$Dealing", "given", "[I", true)
  | 5 => ("SeaWatches$Dealing", "listed", "I", false)
  | 6 => ("SeaWatches$Dealing", "shared", "I", false)
  | 7 => ("SeaWatches$Dealing", "sailing", "I", false)
  | _ => ("SeaWatches$Dealing", "leastWorst", "I", false)
def tyX0 : Nat → FieldType := fun k => match k with
  | 0 => .array .int
  | 1 => .array .int
  | 2 => .array .int
  | 3 => .array .int
  | 4 => .array .int
  | 5 => .int
  | 6 => .int
  | 7 => .int
  | _ => .int
abbrev wsX00 : List Cond := u_ws RX0 TX0 9
theorem nmX0 : ∀ a, a < 9 → ∀ b, b < 9 → a ≠ b → (TX0 a).2.1 ≠ (TX0 b).2.1 := by decide +kernel
theorem tyX0_ok : ∀ k, k < 9 → parseFieldDescriptor (TX0 k).2.2.1 = some (tyX0 k) := by decide +kernel
def RX1 : String := "SeaWatches$Fit"
def TX1 : u_T := fun k => match k with
  | 0 => ("SeaWatches$Fit", "n", "J", false)
  | 1 => ("SeaWatches$Fit", "sumR", "J", false)
  | 2 => ("SeaWatches$Fit", "sumW", "J", false)
  | 3 => ("SeaWatches$Fit", "sumA", "J", false)
  | 4 => ("SeaWatches$Fit", "sumWW", "J", false)
  | 5 => ("SeaWatches$Fit", "sumAA", "J", false)
  | 6 => ("SeaWatches$Fit", "sumWA", "J", false)
  | 7 => ("SeaWatches$Fit", "sumWR", "J", false)
  | 8 => ("SeaWatches$Fit", "sumAR", "J", false)
  | 9 => ("SeaWatches$Fit", "divisor", "J", false)
  | 10 => ("SeaWatches$Fit", "byWarmth", "J", false)
  | 11 => ("SeaWatches$Fit", "byAge", "J", false)
  | 12 => ("SeaWatches$Fit", "form", "I", false)
  | 13 => ("SeaWatches$Fit", "whole", "J", false)
  | _ => ("SeaWatches$Fit", "rest", "J", false)
def tyX1 : Nat → FieldType := fun k => match k with
  | 0 => .long
  | 1 => .long
  | 2 => .long
  | 3 => .long
  | 4 => .long
  | 5 => .long
  | 6 => .long
  | 7 => .long
  | 8 => .long
  | 9 => .long
  | 10 => .long
  | 11 => .long
  | 12 => .int
  | 13 => .long
  | _ => .long
abbrev wsX10 : List Cond := u_ws RX1 TX1 15
theorem nmX1 : ∀ a, a < 15 → ∀ b, b < 15 → a ≠ b → (TX1 a).2.1 ≠ (TX1 b).2.1 := by decide +kernel
theorem tyX1_ok : ∀ k, k < 15 → parseFieldDescriptor (TX1 k).2.2.1 = some (tyX1 k) := by decide +kernel
def RX2 : String := "SeaWatches$Offs"
def TX2 : u_T := fun k => match k with
  | 0 => ("SeaWatches$Offs", "signals", "[I", true)
  | 1 => ("SeaWatches$Offs", "firsts", "[I", true)
  | 2 => ("SeaWatches$Offs", "lasts", "[I", true)
  | 3 => ("SeaWatches$Offs", "values", "[I", true)
  | 4 => ("SeaWatches$Offs", "toldOn", "[I", true)
  | _ => ("SeaWatches$Offs", "size", "I", false)
def tyX2 : Nat → FieldType := fun k => match k with
  | 0 => .array .int
  | 1 => .array .int
  | 2 => .array .int
  | 3 => .array .int
  | 4 => .array .int
  | _ => .int
abbrev wsX20 : List Cond := u_ws RX2 TX2 6
theorem nmX2 : ∀ a, a < 6 → ∀ b, b < 6 → a ≠ b → (TX2 a).2.1 ≠ (TX2 b).2.1 := by decide +kernel
theorem tyX2_ok : ∀ k, k < 6 → parseFieldDescriptor (TX2 k).2.2.1 = some (tyX2 k) := by decide +kernel
def RX3 : String := "SeaWatches$Rates"
def TX3 : u_T := fun k => match k with
  | 0 => ("SeaWatches$Rates", "days", "[I", true)
  | 1 => ("SeaWatches$Rates", "values", "[I", true)
  | 2 => ("SeaWatches$Rates", "sorted", "[I", true)
  | _ => ("SeaWatches$Rates", "size", "I", false)
def tyX3 : Nat → FieldType := fun k => match k with
  | 0 => .array .int
  | 1 => .array .int
  | 2 => .array .int
  | _ => .int
abbrev wsX30 : List Cond := u_ws RX3 TX3 4
theorem nmX3 : ∀ a, a < 4 → ∀ b, b < 4 → a ≠ b → (TX3 a).2.1 ≠ (TX3 b).2.1 := by decide +kernel
theorem tyX3_ok : ∀ k, k < 4 → parseFieldDescriptor (TX3 k).2.2.1 = some (tyX3 k) := by decide +kernel
def RX4 : String := "SeaWatches$Rule"
def TX4 : u_T := fun k => match k with
  | 0 => ("SeaWatches$Rule", "signs", "[I", true)
  | 1 => ("SeaWatches$Rule", "values", "[I", true)
  | 2 => ("SeaWatches$Rule", "stack", "[I", true)
  | _ => ("SeaWatches$Rule", "size", "I", false)
def tyX4 : Nat → FieldType := fun k => match k with
  | 0 => .array .int
  | 1 => .array .int
  | 2 => .array .int
  | _ => .int
abbrev wsX40 : List Cond := u_ws RX4 TX4 4
theorem nmX4 : ∀ a, a < 4 → ∀ b, b < 4 → a ≠ b → (TX4 a).2.1 ≠ (TX4 b).2.1 := by decide +kernel
theorem tyX4_ok : ∀ k, k < 4 → parseFieldDescriptor (TX4 k).2.2.1 = some (tyX4 k) := by decide +kernel
def RX5 : String := "SeaWatches$Ship"
def TX5 : u_T := fun k => match k with
  | 0 => ("SeaWatches$Ship", "places", "[I", true)
  | 1 => ("SeaWatches$Ship", "starts", "[I", true)
  | 2 => ("SeaWatches$Ship", "goings", "[I", true)
  | 3 => ("SeaWatches$Ship", "doubts", "[I", true)
  | 4 => ("SeaWatches$Ship", "ends", "[I", true)
  | 5 => ("SeaWatches$Ship", "sightDays", "[I", true)
  | 6 => ("SeaWatches$Ship", "shown", "[I", true)
  | 7 => ("SeaWatches$Ship", "sights", "I", false)
  | 8 => ("SeaWatches$Ship", "stage", "I", false)
  | 9 => ("SeaWatches$Ship", "sailed", "I", false)
  | _ => ("SeaWatches$Ship", "voyage", "I", false)
def tyX5 : Nat → FieldType := fun k => match k with
  | 0 => .array .int
  | 1 => .array .int
  | 2 => .array .int
  | 3 => .array .int
  | 4 => .array .int
  | 5 => .array .int
  | 6 => .array .int
  | 7 => .int
  | 8 => .int
  | 9 => .int
  | _ => .int
abbrev wsX50 : List Cond := u_ws RX5 TX5 11
theorem nmX5 : ∀ a, a < 11 → ∀ b, b < 11 → a ≠ b → (TX5 a).2.1 ≠ (TX5 b).2.1 := by decide +kernel
theorem tyX5_ok : ∀ k, k < 11 → parseFieldDescriptor (TX5 k).2.2.1 = some (tyX5 k) := by decide +kernel
def RX6 : String := "SeaWatches$Tape"
def TX6 : u_T := fun k => match k with
  | 0 => ("SeaWatches$Tape", "bytes", "[I", true)
  | 1 => ("SeaWatches$Tape", "size", "I", false)
  | 2 => ("SeaWatches$Tape", "rule", "LSeaWatches$Rule;", false)
  | 3 => ("SeaWatches$Tape", "words", "Ljava/lang/String;", false)
  | 4 => ("SeaWatches$Tape", "at", "I", false)
  | 5 => ("SeaWatches$Tape", "word", "I", false)
  | 6 => ("SeaWatches$Tape", "wordAt", "I", false)
  | _ => ("SeaWatches$Tape", "value", "I", false)
def tyX6 : Nat → FieldType := fun k => match k with
  | 0 => .array .int
  | 1 => .int
  | 2 => .object "SeaWatches$Rule"
  | 3 => .object "java/lang/String"
  | 4 => .int
  | 5 => .int
  | 6 => .int
  | _ => .int
abbrev wsX60 : List Cond := u_ws RX6 TX6 8
theorem nmX6 : ∀ a, a < 8 → ∀ b, b < 8 → a ≠ b → (TX6 a).2.1 ≠ (TX6 b).2.1 := by decide +kernel
theorem tyX6_ok : ∀ k, k < 8 → parseFieldDescriptor (TX6 k).2.2.1 = some (tyX6 k) := by decide +kernel
def RX7 : String := "SeaWatches$Watch"
def TX7 : u_T := fun k => match k with
  | 0 => ("SeaWatches$Watch", "tolds", "[I", true)
  | 1 => ("SeaWatches$Watch", "sources", "[I", true)
  | 2 => ("SeaWatches$Watch", "marks", "[I", true)
  | _ => ("SeaWatches$Watch", "holders", "[I", true)
def tyX7 : Nat → FieldType := fun k => match k with
  | 0 => .array .int
  | 1 => .array .int
  | 2 => .array .int
  | _ => .array .int
abbrev wsX70 : List Cond := u_ws RX7 TX7 4
theorem nmX7 : ∀ a, a < 4 → ∀ b, b < 4 → a ≠ b → (TX7 a).2.1 ≠ (TX7 b).2.1 := by decide +kernel
theorem tyX7_ok : ∀ k, k < 4 → parseFieldDescriptor (TX7 k).2.2.1 = some (tyX7 k) := by decide +kernel
def RX8 : String := "SeaWatches"
def TX8 : u_T := fun k => match k with
  | 0 => ("SeaWatches", "warmths", "[I", true)
  | 1 => ("SeaWatches", "kinds", "[I", true)
  | 2 => ("SeaWatches", "numbers", "[I", true)
  | 3 => ("SeaWatches", "watches", "[LSeaWatches$Watch;", true)
  | 4 => ("SeaWatches", "ships", "[LSeaWatches$Ship;", true)
  | 5 => ("SeaWatches", "names", "[I", true)
  | 6 => ("SeaWatches", "offs", "LSeaWatches$Offs;", true)
  | 7 => ("SeaWatches", "rates", "LSeaWatches$Rates;", true)
  | 8 => ("SeaWatches", "fit", "LSeaWatches$Fit;", true)
  | 9 => ("SeaWatches", "tape", "LSeaWatches$Tape;", true)
  | 10 => ("SeaWatches", "dealing", "LSeaWatches$Dealing;", true)
  | 11 => ("SeaWatches", "trialRule", "LSeaWatches$Rule;", false)
  | 12 => ("SeaWatches", "dropRule", "LSeaWatches$Rule;", false)
  | _ => ("SeaWatches", "today", "I", false)
def tyX8 : Nat → FieldType := fun k => match k with
  | 0 => .array .int
  | 1 => .array .int
  | 2 => .array .int
  | 3 => .array (.object "SeaWatches$Watch")
  | 4 => .array (.object "SeaWatches$Ship")
  | 5 => .array .int
  | 6 => .object "SeaWatches$Offs"
  | 7 => .object "SeaWatches$Rates"
  | 8 => .object "SeaWatches$Fit"
  | 9 => .object "SeaWatches$Tape"
  | 10 => .object "SeaWatches$Dealing"
  | 11 => .object "SeaWatches$Rule"
  | 12 => .object "SeaWatches$Rule"
  | _ => .int
abbrev wsX80 : List Cond := u_ws RX8 TX8 14
theorem nmX8 : ∀ a, a < 14 → ∀ b, b < 14 → a ≠ b → (TX8 a).2.1 ≠ (TX8 b).2.1 := by decide +kernel
theorem tyX8_ok : ∀ k, k < 14 → parseFieldDescriptor (TX8 k).2.2.1 = some (tyX8 k) := by decide +kernel
def RX9 : String := "SeaWatchesModel"
def TX9 : u_T := fun k => match k with
  | 0 => ("SeaWatchesModel", "code", "I", false)
  | 1 => ("SeaWatchesModel", "today", "I", false)
  | 2 => ("SeaWatchesModel", "warmths", "[I", true)
  | 3 => ("SeaWatchesModel", "kind", "[I", true)
  | 4 => ("SeaWatchesModel", "mark", "[I", true)
  | 5 => ("SeaWatchesModel", "has", "[Z", true)
  | 6 => ("SeaWatchesModel", "errors", "[I", true)
  | 7 => ("SeaWatchesModel", "sources", "[I", true)
  | 8 => ("SeaWatchesModel", "repaired", "[Z", true)
  | 9 => ("SeaWatchesModel", "lateOn", "[Z", true)
  | 10 => ("SeaWatchesModel", "holders", "[I", true)
  | 11 => ("SeaWatchesModel", "offs", "I", false)
  | 12 => ("SeaWatchesModel", "offSignal", "[I", true)
  | 13 => ("SeaWatchesModel", "offFrom", "[I", true)
  | 14 => ("SeaWatchesModel", "offTo", "[I", true)
  | 15 => ("SeaWatchesModel", "offBy", "[I", true)
  | 16 => ("SeaWatchesModel", "offDay", "[I", true)
  | 17 => ("SeaWatchesModel", "many", "J", false)
  | 18 => ("SeaWatchesModel", "sumW", "J", false)
  | 19 => ("SeaWatchesModel", "sumA", "J", false)
  | 20 => ("SeaWatchesModel", "sumR", "J", false)
  | 21 => ("SeaWatchesModel", "sumWW", "J", false)
  | 22 => ("SeaWatchesModel", "sumWA", "J", false)
  | 23 => ("SeaWatchesModel", "sumAA", "J", false)
  | 24 => ("SeaWatchesModel", "sumWR", "J", false)
  | 25 => ("SeaWatchesModel", "sumAR", "J", false)
  | 26 => ("SeaWatchesModel", "upper", "J", false)
  | 27 => ("SeaWatchesModel", "lower", "J", false)
  | 28 => ("SeaWatchesModel", "rates", "I", false)
  | 29 => ("SeaWatchesModel", "rateDay", "[I", true)
  | 30 => ("SeaWatchesModel", "rate", "[I", true)
  | 31 => ("SeaWatchesModel", "sorted", "[I", true)
  | 32 => ("SeaWatchesModel", "tape", "[B", true)
  | 33 => ("SeaWatchesModel", "taped", "I", false)
  | 34 => ("SeaWatchesModel", "hasRule", "[Z", true)
  | 35 => ("SeaWatchesModel", "ruleSize", "[I", true)
  | 36 => ("SeaWatchesModel", "step", "[I", true)
  | 37 => ("SeaWatchesModel", "number", "[I", true)
  | 38 => ("SeaWatchesModel", "laid", "I", false)
  | 39 => ("SeaWatchesModel", "at", "I", false)
  | 40 => ("SeaWatchesModel", "tk", "I", false)
  | 41 => ("SeaWatchesModel", "tkAt", "I", false)
  | 42 => ("SeaWatchesModel", "tkNumber", "I", false)
  | 43 => ("SeaWatchesModel", "wait", "[I", true)
  | 44 => ("SeaWatchesModel", "waits", "I", false)
  | 45 => ("SeaWatchesModel", "pile", "[I", true)
  | 46 => ("SeaWatchesModel", "named", "[I", true)
  | 47 => ("SeaWatchesModel", "shipState", "[I", true)
  | 48 => ("SeaWatchesModel", "sailedOn", "[I", true)
  | 49 => ("SeaWatchesModel", "backAfter", "[I", true)
  | 50 => ("SeaWatchesModel", "carriedAt", "[I", true)
  | 51 => ("SeaWatchesModel", "start", "[I", true)
  | 52 => ("SeaWatchesModel", "going", "[I", true)
  | 53 => ("SeaWatchesModel", "doubts", "[I", true)
  | 54 => ("SeaWatchesModel", "backError", "[I", true)
  | 55 => ("SeaWatchesModel", "sights", "[I", true)
  | 56 => ("SeaWatchesModel", "sightDay", "[I", true)
  | 57 => ("SeaWatchesModel", "shown", "[I", true)
  | 58 => ("SeaWatchesModel", "asks", "[I", true)
  | 59 => ("SeaWatchesModel", "times", "[I", true)
  | 60 => ("SeaWatchesModel", "widths", "[I", true)
  | 61 => ("SeaWatchesModel", "listed", "I", false)
  | 62 => ("SeaWatchesModel", "list", "[I", true)
  | 63 => ("SeaWatchesModel", "dealt", "[I", true)
  | 64 => ("SeaWatchesModel", "dealtMany", "I", false)
  | 65 => ("SeaWatchesModel", "way", "[I", true)
  | 66 => ("SeaWatchesModel", "dealDays", "[I", true)
  | _ => ("SeaWatchesModel", "given", "[I", true)
def tyX9 : Nat → FieldType := fun k => match k with
  | 0 => .int
  | 1 => .int
  | 2 => .array .int
  | 3 => .array .int
  | 4 => .array .int
  | 5 => .array .boolean
  | 6 => .array .int
  | 7 => .array .int
  | 8 => .array .boolean
  | 9 => .array .boolean
  | 10 => .array .int
  | 11 => .int
  | 12 => .array .int
  | 13 => .array .int
  | 14 => .array .int
  | 15 => .array .int
  | 16 => .array .int
  | 17 => .long
  | 18 => .long
  | 19 => .long
  | 20 => .long
  | 21 => .long
  | 22 => .long
  | 23 => .long
  | 24 => .long
  | 25 => .long
  | 26 => .long
  | 27 => .long
  | 28 => .int
  | 29 => .array .int
  | 30 => .array .int
  | 31 => .array .int
  | 32 => .array .byte
  | 33 => .int
  | 34 => .array .boolean
  | 35 => .array .int
  | 36 => .array .int
  | 37 => .array .int
  | 38 => .int
  | 39 => .int
  | 40 => .int
  | 41 => .int
  | 42 => .int
  | 43 => .array .int
  | 44 => .int
  | 45 => .array .int
  | 46 => .array .int
  | 47 => .array .int
  | 48 => .array .int
  | 49 => .array .int
  | 50 => .array .int
  | 51 => .array .int
  | 52 => .array .int
  | 53 => .array .int
  | 54 => .array .int
  | 55 => .array .int
  | 56 => .array .int
  | 57 => .array .int
  | 58 => .array .int
  | 59 => .array .int
  | 60 => .array .int
  | 61 => .int
  | 62 => .array .int
  | 63 => .array .int
  | 64 => .int
  | 65 => .array .int
  | 66 => .array .int
  | _ => .array .int
abbrev wsX90 : List Cond := u_ws RX9 TX9 68
theorem nmX9 : ∀ a, a < 68 → ∀ b, b < 68 → a ≠ b → (TX9 a).2.1 ≠ (TX9 b).2.1 := by decide +kernel
theorem tyX9_ok : ∀ k, k < 68 → parseFieldDescriptor (TX9 k).2.2.1 = some (tyX9 k) := by decide +kernel
abbrev cX0_init : ByteArray := prog_2_method_1_code
def yX0_init : MethodName := ⟨RX0, "<init>", "()V"⟩
abbrev cX0_add : ByteArray := prog_2_method_2_code
def yX0_add : MethodName := ⟨RX0, "add", "(I)V"⟩
abbrev cX0_shareOut : ByteArray := prog_2_method_3_code
def yX0_shareOut : MethodName := ⟨RX0, "shareOut", "(IIII)I"⟩
abbrev cX0_tryFrom : ByteArray := prog_2_method_4_code
def yX0_tryFrom : MethodName := ⟨RX0, "tryFrom", "(II)V"⟩
abbrev cX0_keepIfBetter : ByteArray := prog_2_method_5_code
def yX0_keepIfBetter : MethodName := ⟨RX0, "keepIfBetter", "()V"⟩
abbrev cX0_secondLeast : ByteArray := prog_2_method_6_code
def yX0_secondLeast : MethodName := ⟨RX0, "secondLeast", "(I)I"⟩
abbrev cX1_init : ByteArray := prog_3_method_1_code
def yX1_init : MethodName := ⟨RX1, "<init>", "()V"⟩
abbrev cX1_clear : ByteArray := prog_3_method_2_code
def yX1_clear : MethodName := ⟨RX1, "clear", "()V"⟩
abbrev cX1_add : ByteArray := prog_3_method_3_code
def yX1_add : MethodName := ⟨RX1, "add", "(JJJ)V"⟩
abbrev cX1_size : ByteArray := prog_3_method_4_code
def yX1_size : MethodName := ⟨RX1, "size", "()I"⟩
abbrev cX1_form : ByteArray := prog_3_method_5_code
def yX1_form : MethodName := ⟨RX1, "form", "()I"⟩
abbrev cX1_solve : ByteArray := prog_3_method_6_code
def yX1_solve : MethodName := ⟨RX1, "solve", "()V"⟩
abbrev cX1_setLaw : ByteArray := prog_3_method_7_code
def yX1_setLaw : MethodName := ⟨RX1, "setLaw", "(IJJJ)V"⟩
abbrev cX1_thousandfold : ByteArray := prog_3_method_8_code
def yX1_thousandfold : MethodName := ⟨RX1, "thousandfold", "(II)J"⟩
abbrev cX1_addProduct : ByteArray := prog_3_method_9_code
def yX1_addProduct : MethodName := ⟨RX1, "addProduct", "(JJ)V"⟩
abbrev cX2_init : ByteArray := prog_4_method_1_code
def yX2_init : MethodName := ⟨RX2, "<init>", "()V"⟩
abbrev cX2_add : ByteArray := prog_4_method_2_code
def yX2_add : MethodName := ⟨RX2, "add", "(IIIII)V"⟩
abbrev cX2_sumFor : ByteArray := prog_4_method_3_code
def yX2_sumFor : MethodName := ⟨RX2, "sumFor", "(III)I"⟩
abbrev cX3_init : ByteArray := prog_5_method_1_code
def yX3_init : MethodName := ⟨RX3, "<init>", "()V"⟩
abbrev cX3_gather : ByteArray := prog_5_method_2_code
def yX3_gather : MethodName := ⟨RX3, "gather", "(LSeaWatches$Watch;LSeaWatches$Offs;II)V"⟩
abbrev cX3_least : ByteArray := prog_5_method_3_code
def yX3_least : MethodName := ⟨RX3, "least", "()I"⟩
abbrev cX3_most : ByteArray := prog_5_method_4_code
def yX3_most : MethodName := ⟨RX3, "most", "()I"⟩
abbrev cX3_sum : ByteArray := prog_5_method_5_code
def yX3_sum : MethodName := ⟨RX3, "sum", "()I"⟩
abbrev cX3_drift : ByteArray := prog_5_method_6_code
def yX3_drift : MethodName := ⟨RX3, "drift", "()I"⟩
abbrev cX3_greatestStep : ByteArray := prog_5_method_7_code
def yX3_greatestStep : MethodName := ⟨RX3, "greatestStep", "()I"⟩
abbrev cX3_dayFarthestOff : ByteArray := prog_5_method_8_code
def yX3_dayFarthestOff : MethodName := ⟨RX3, "dayFarthestOff", "(I)I"⟩
abbrev cX3_middleOne : ByteArray := prog_5_method_9_code
def yX3_middleOne : MethodName := ⟨RX3, "middleOne", "()I"⟩
abbrev cX4_init : ByteArray := prog_6_method_1_code
def yX4_init : MethodName := ⟨RX4, "<init>", "()V"⟩
abbrev cX4_add : ByteArray := prog_6_method_2_code
def yX4_add : MethodName := ⟨RX4, "add", "(II)V"⟩
abbrev cX4_workOut : ByteArray := prog_6_method_3_code
def yX4_workOut : MethodName := ⟨RX4, "workOut", "([I)I"⟩
abbrev cX4_isAhead : ByteArray := prog_6_method_4_code
def yX4_isAhead : MethodName := ⟨RX4, "isAhead", "(I)Z"⟩
abbrev cX4_workOutOne : ByteArray := prog_6_method_5_code
def yX4_workOutOne : MethodName := ⟨RX4, "workOutOne", "(II)I"⟩
abbrev cX4_workOutTwo : ByteArray := prog_6_method_6_code
def yX4_workOutTwo : MethodName := ⟨RX4, "workOutTwo", "(III)I"⟩
abbrev cX5_init : ByteArray := prog_7_method_1_code
def yX5_init : MethodName := ⟨RX5, "<init>", "()V"⟩
abbrev cX5_leave : ByteArray := prog_7_method_2_code
def yX5_leave : MethodName := ⟨RX5, "leave", "(I)V"⟩
abbrev cX5_carry : ByteArray := prog_7_method_3_code
def yX5_carry : MethodName := ⟨RX5, "carry", "(IIIII)V"⟩
abbrev cX5_comeBack : ByteArray := prog_7_method_4_code
def yX5_comeBack : MethodName := ⟨RX5, "comeBack", "(I)V"⟩
abbrev cX5_mayBeSighted : ByteArray := prog_7_method_5_code
def yX5_mayBeSighted : MethodName := ⟨RX5, "mayBeSighted", "(I)Z"⟩
abbrev cX5_addSight : ByteArray := prog_7_method_6_code
def yX5_addSight : MethodName := ⟨RX5, "addSight", "(IIII)I"⟩
abbrev cX5_isOf : ByteArray := prog_7_method_7_code
def yX5_isOf : MethodName := ⟨RX5, "isOf", "(II)Z"⟩
abbrev cX5_daysSince : ByteArray := prog_7_method_8_code
def yX5_daysSince : MethodName := ⟨RX5, "daysSince", "(I)I"⟩
abbrev cX5_timeOf : ByteArray := prog_7_method_9_code
def yX5_timeOf : MethodName := ⟨RX5, "timeOf", "(II)I"⟩
abbrev cX5_widthOf : ByteArray := prog_7_method_10_code
def yX5_widthOf : MethodName := ⟨RX5, "widthOf", "(II)I"⟩
abbrev cX5_offFromOthers : ByteArray := prog_7_method_11_code
def yX5_offFromOthers : MethodName := ⟨RX5, "offFromOthers", "(II)I"⟩
abbrev cX5_beginOf : ByteArray := prog_7_method_12_code
def yX5_beginOf : MethodName := ⟨RX5, "beginOf", "(II)I"⟩
abbrev cX5_endOf : ByteArray := prog_7_method_13_code
def yX5_endOf : MethodName := ⟨RX5, "endOf", "(II)I"⟩
abbrev cX6_init : ByteArray := prog_8_method_1_code
def yX6_init : MethodName := ⟨RX6, "<init>", "()V"⟩
abbrev cX6_add : ByteArray := prog_8_method_2_code
def yX6_add : MethodName := ⟨RX6, "add", "(I)V"⟩
abbrev cX6_readAsRule : ByteArray := prog_8_method_3_code
def yX6_readAsRule : MethodName := ⟨RX6, "readAsRule", "(Ljava/lang/String;)I"⟩
abbrev cX6_exchangeRule : ByteArray := prog_8_method_4_code
def yX6_exchangeRule : MethodName := ⟨RX6, "exchangeRule", "(LSeaWatches$Rule;)LSeaWatches$Rule;"⟩
abbrev cX6_readEither : ByteArray := prog_8_method_5_code
def yX6_readEither : MethodName := ⟨RX6, "readEither", "(I)Z"⟩
abbrev cX6_readBoth : ByteArray := prog_8_method_6_code
def yX6_readBoth : MethodName := ⟨RX6, "readBoth", "(I)Z"⟩
abbrev cX6_readNegation : ByteArray := prog_8_method_7_code
def yX6_readNegation : MethodName := ⟨RX6, "readNegation", "(I)Z"⟩
abbrev cX6_readComparison : ByteArray := prog_8_method_8_code
def yX6_readComparison : MethodName := ⟨RX6, "readComparison", "(I)Z"⟩
abbrev cX6_readSum : ByteArray := prog_8_method_9_code
def yX6_readSum : MethodName := ⟨RX6, "readSum", "(I)Z"⟩
abbrev cX6_readProduct : ByteArray := prog_8_method_10_code
def yX6_readProduct : MethodName := ⟨RX6, "readProduct", "(I)Z"⟩
abbrev cX6_readOperand : ByteArray := prog_8_method_11_code
def yX6_readOperand : MethodName := ⟨RX6, "readOperand", "(I)Z"⟩
abbrev cX6_readInBrackets : ByteArray := prog_8_method_12_code
def yX6_readInBrackets : MethodName := ⟨RX6, "readInBrackets", "(I)Z"⟩
abbrev cX6_goOn : ByteArray := prog_8_method_13_code
def yX6_goOn : MethodName := ⟨RX6, "goOn", "()V"⟩
abbrev cX6_takeLetters : ByteArray := prog_8_method_14_code
def yX6_takeLetters : MethodName := ⟨RX6, "takeLetters", "()V"⟩
abbrev cX6_takeDigits : ByteArray := prog_8_method_15_code
def yX6_takeDigits : MethodName := ⟨RX6, "takeDigits", "()V"⟩
abbrev cX6_placeAmongWords : ByteArray := prog_8_method_16_code
def yX6_placeAmongWords : MethodName := ⟨RX6, "placeAmongWords", "()I"⟩
abbrev cX6_isOnTape : ByteArray := prog_8_method_17_code
def yX6_isOnTape : MethodName := ⟨RX6, "isOnTape", "(II)Z"⟩
abbrev cX6_isLetter : ByteArray := prog_8_method_18_code
def yX6_isLetter : MethodName := ⟨RX6, "isLetter", "(I)Z"⟩
abbrev cX6_isDigit : ByteArray := prog_8_method_19_code
def yX6_isDigit : MethodName := ⟨RX6, "isDigit", "(I)Z"⟩
abbrev cX6_isSign : ByteArray := prog_8_method_20_code
def yX6_isSign : MethodName := ⟨RX6, "isSign", "(I)Z"⟩
abbrev cX7_init : ByteArray := prog_9_method_1_code
def yX7_init : MethodName := ⟨RX7, "<init>", "()V"⟩
abbrev cX7_becomeNew : ByteArray := prog_9_method_2_code
def yX7_becomeNew : MethodName := ⟨RX7, "becomeNew", "()V"⟩
abbrev cX7_isCompared : ByteArray := prog_9_method_3_code
def yX7_isCompared : MethodName := ⟨RX7, "isCompared", "(I)Z"⟩
abbrev cX7_tell : ByteArray := prog_9_method_4_code
def yX7_tell : MethodName := ⟨RX7, "tell", "(III)V"⟩
abbrev cX7_errorAsKnown : ByteArray := prog_9_method_5_code
def yX7_errorAsKnown : MethodName := ⟨RX7, "errorAsKnown", "(ILSeaWatches$Offs;I)I"⟩
abbrev cX7_rateAsKnown : ByteArray := prog_9_method_6_code
def yX7_rateAsKnown : MethodName := ⟨RX7, "rateAsKnown", "(ILSeaWatches$Offs;I)I"⟩
abbrev cX7_rateBetween : ByteArray := prog_9_method_7_code
def yX7_rateBetween : MethodName := ⟨RX7, "rateBetween", "(III)I"⟩
abbrev cX7_isMarked : ByteArray := prog_9_method_8_code
def yX7_isMarked : MethodName := ⟨RX7, "isMarked", "(II)Z"⟩
abbrev cX7_addMark : ByteArray := prog_9_method_9_code
def yX7_addMark : MethodName := ⟨RX7, "addMark", "(II)Z"⟩
abbrev cX7_ageOn : ByteArray := prog_9_method_10_code
def yX7_ageOn : MethodName := ⟨RX7, "ageOn", "(I)I"⟩
abbrev cX7_holderOn : ByteArray := prog_9_method_11_code
def yX7_holderOn : MethodName := ⟨RX7, "holderOn", "(I)I"⟩
abbrev cX7_giveTo : ByteArray := prog_9_method_12_code
def yX7_giveTo : MethodName := ⟨RX7, "giveTo", "(II)V"⟩
abbrev cX7_daysAway : ByteArray := prog_9_method_13_code
def yX7_daysAway : MethodName := ⟨RX7, "daysAway", "(I)I"⟩
abbrev cX8_init : ByteArray := prog_1_method_1_code
def yX8_init : MethodName := ⟨RX8, "<init>", "()V"⟩
abbrev cX8_days : ByteArray := prog_1_method_2_code
def yX8_days : MethodName := ⟨RX8, "days", "(I)I"⟩
abbrev cX8_warmth : ByteArray := prog_1_method_3_code
def yX8_warmth : MethodName := ⟨RX8, "warmth", "(II)I"⟩
abbrev cX8_put : ByteArray := prog_1_method_4_code
def yX8_put : MethodName := ⟨RX8, "put", "(III)I"⟩
abbrev cX8_take : ByteArray := prog_1_method_5_code
def yX8_take : MethodName := ⟨RX8, "take", "(I)I"⟩
abbrev cX8_holds : ByteArray := prog_1_method_6_code
def yX8_holds : MethodName := ⟨RX8, "holds", "(I)I"⟩
abbrev cX8_read : ByteArray := prog_1_method_7_code
def yX8_read : MethodName := ⟨RX8, "read", "(I)I"⟩
abbrev cX8_compare : ByteArray := prog_1_method_8_code
def yX8_compare : MethodName := ⟨RX8, "compare", "(IIII)I"⟩
abbrev cX8_error : ByteArray := prog_1_method_9_code
def yX8_error : MethodName := ⟨RX8, "error", "(III)I"⟩
abbrev cX8_rate : ByteArray := prog_1_method_10_code
def yX8_rate : MethodName := ⟨RX8, "rate", "(III)I"⟩
abbrev cX8_repair : ByteArray := prog_1_method_11_code
def yX8_repair : MethodName := ⟨RX8, "repair", "(II)I"⟩
abbrev cX8_late : ByteArray := prog_1_method_12_code
def yX8_late : MethodName := ⟨RX8, "late", "(II)I"⟩
abbrev cX8_age : ByteArray := prog_1_method_13_code
def yX8_age : MethodName := ⟨RX8, "age", "(II)I"⟩
abbrev cX8_off : ByteArray := prog_1_method_14_code
def yX8_off : MethodName := ⟨RX8, "off", "(IIII)I"⟩
abbrev cX8_changed : ByteArray := prog_1_method_15_code
def yX8_changed : MethodName := ⟨RX8, "changed", "(IIII)I"⟩
abbrev cX8_law : ByteArray := prog_1_method_16_code
def yX8_law : MethodName := ⟨RX8, "law", "(III)I"⟩
abbrev cX8_terms : ByteArray := prog_1_method_17_code
def yX8_terms : MethodName := ⟨RX8, "terms", "(III)I"⟩
abbrev cX8_foretold : ByteArray := prog_1_method_18_code
def yX8_foretold : MethodName := ⟨RX8, "foretold", "(IIIII)I"⟩
abbrev cX8_jump : ByteArray := prog_1_method_19_code
def yX8_jump : MethodName := ⟨RX8, "jump", "(IIII)I"⟩
abbrev cX8_feed : ByteArray := prog_1_method_20_code
def yX8_feed : MethodName := ⟨RX8, "feed", "(II)I"⟩
abbrev cX8_rule : ByteArray := prog_1_method_21_code
def yX8_rule : MethodName := ⟨RX8, "rule", "(I)I"⟩
abbrev cX8_trial : ByteArray := prog_1_method_22_code
def yX8_trial : MethodName := ⟨RX8, "trial", "(III)I"⟩
abbrev cX8_order : ByteArray := prog_1_method_23_code
def yX8_order : MethodName := ⟨RX8, "order", "(III)I"⟩
abbrev cX8_sail : ByteArray := prog_1_method_24_code
def yX8_sail : MethodName := ⟨RX8, "sail", "(IIII)I"⟩
abbrev cX8_carried : ByteArray := prog_1_method_25_code
def yX8_carried : MethodName := ⟨RX8, "carried", "(III)I"⟩
abbrev cX8_sight : ByteArray := prog_1_method_26_code
def yX8_sight : MethodName := ⟨RX8, "sight", "(IIIII)I"⟩
abbrev cX8_told : ByteArray := prog_1_method_27_code
def yX8_told : MethodName := ⟨RX8, "told", "(III)I"⟩
abbrev cX8_back : ByteArray := prog_1_method_28_code
def yX8_back : MethodName := ⟨RX8, "back", "(IIII)I"⟩
abbrev cX8_state : ByteArray := prog_1_method_29_code
def yX8_state : MethodName := ⟨RX8, "state", "(I)I"⟩
abbrev cX8_doubt : ByteArray := prog_1_method_30_code
def yX8_doubt : MethodName := ⟨RX8, "doubt", "(I)I"⟩
abbrev cX8_deal : ByteArray := prog_1_method_31_code
def yX8_deal : MethodName := ⟨RX8, "deal", "(III)I"⟩
abbrev cX8_dealt : ByteArray := prog_1_method_32_code
def yX8_dealt : MethodName := ⟨RX8, "dealt", "(I)I"⟩
abbrev cX8_lend : ByteArray := prog_1_method_33_code
def yX8_lend : MethodName := ⟨RX8, "lend", "(II)I"⟩
abbrev cX8_home : ByteArray := prog_1_method_34_code
def yX8_home : MethodName := ⟨RX8, "home", "(I)I"⟩
abbrev cX8_holder : ByteArray := prog_1_method_35_code
def yX8_holder : MethodName := ⟨RX8, "holder", "(II)I"⟩
abbrev cX8_away : ByteArray := prog_1_method_36_code
def yX8_away : MethodName := ⟨RX8, "away", "(I)I"⟩
abbrev cX8_count : ByteArray := prog_1_method_37_code
def yX8_count : MethodName := ⟨RX8, "count", "(I)I"⟩
abbrev cX8_isDay : ByteArray := prog_1_method_38_code
def yX8_isDay : MethodName := ⟨RX8, "isDay", "(I)Z"⟩
abbrev cX8_isPast : ByteArray := prog_1_method_39_code
def yX8_isPast : MethodName := ⟨RX8, "isPast", "(I)Z"⟩
abbrev cX8_isKnowledge : ByteArray := prog_1_method_40_code
def yX8_isKnowledge : MethodName := ⟨RX8, "isKnowledge", "(I)Z"⟩
abbrev cX8_isPlace : ByteArray := prog_1_method_41_code
def yX8_isPlace : MethodName := ⟨RX8, "isPlace", "(I)Z"⟩
abbrev cX8_isShip : ByteArray := prog_1_method_42_code
def yX8_isShip : MethodName := ⟨RX8, "isShip", "(I)Z"⟩
abbrev cX8_isWithin : ByteArray := prog_1_method_43_code
def yX8_isWithin : MethodName := ⟨RX8, "isWithin", "(II)Z"⟩
abbrev cX8_isStretch : ByteArray := prog_1_method_44_code
def yX8_isStretch : MethodName := ⟨RX8, "isStretch", "(II)Z"⟩
abbrev cX8_fitsKind : ByteArray := prog_1_method_45_code
def yX8_fitsKind : MethodName := ⟨RX8, "fitsKind", "(II)Z"⟩
abbrev cX8_watchAt : ByteArray := prog_1_method_46_code
def yX8_watchAt : MethodName := ⟨RX8, "watchAt", "(I)LSeaWatches$Watch;"⟩
abbrev cX8_lackAt : ByteArray := prog_1_method_47_code
def yX8_lackAt : MethodName := ⟨RX8, "lackAt", "(I)I"⟩
abbrev cX8_firstLack : ByteArray := prog_1_method_48_code
def yX8_firstLack : MethodName := ⟨RX8, "firstLack", "(III)I"⟩
abbrev cX8_refusalOfStretch : ByteArray := prog_1_method_49_code
def yX8_refusalOfStretch : MethodName := ⟨RX8, "refusalOfStretch", "(III)I"⟩
abbrev cX8_bringWatch : ByteArray := prog_1_method_50_code
def yX8_bringWatch : MethodName := ⟨RX8, "bringWatch", "(I)V"⟩
abbrev cX8_markOn : ByteArray := prog_1_method_51_code
def yX8_markOn : MethodName := ⟨RX8, "markOn", "(III)I"⟩
abbrev cX8_warmthFor : ByteArray := prog_1_method_52_code
def yX8_warmthFor : MethodName := ⟨RX8, "warmthFor", "(II)I"⟩
abbrev cX8_placesWith : ByteArray := prog_1_method_53_code
def yX8_placesWith : MethodName := ⟨RX8, "placesWith", "(I)I"⟩
abbrev cX8_shipsAtSea : ByteArray := prog_1_method_54_code
def yX8_shipsAtSea : MethodName := ⟨RX8, "shipsAtSea", "()I"⟩
abbrev cX8_fitLaw : ByteArray := prog_1_method_55_code
def yX8_fitLaw : MethodName := ⟨RX8, "fitLaw", "(III)V"⟩
abbrev cX8_hasTrial : ByteArray := prog_1_method_56_code
def yX8_hasTrial : MethodName := ⟨RX8, "hasTrial", "(III)Z"⟩
abbrev cX8_workOutTrial : ByteArray := prog_1_method_57_code
def yX8_workOutTrial : MethodName := ⟨RX8, "workOutTrial", "(II)I"⟩
abbrev cX8_warmthSpan : ByteArray := prog_1_method_58_code
def yX8_warmthSpan : MethodName := ⟨RX8, "warmthSpan", "(I)I"⟩
abbrev cX8_gatherBeforeSailing : ByteArray := prog_1_method_59_code
def yX8_gatherBeforeSailing : MethodName := ⟨RX8, "gatherBeforeSailing", "(LSeaWatches$Watch;)V"⟩
abbrev cX8_isFitToSail : ByteArray := prog_1_method_60_code
def yX8_isFitToSail : MethodName := ⟨RX8, "isFitToSail", "(I)Z"⟩
abbrev cX8_board : ByteArray := prog_1_method_61_code
def yX8_board : MethodName := ⟨RX8, "board", "(III)V"⟩
abbrev cX8_unload : ByteArray := prog_1_method_62_code
def yX8_unload : MethodName := ⟨RX8, "unload", "(LSeaWatches$Ship;II)V"⟩
abbrev cX8_droppedOf : ByteArray := prog_1_method_63_code
def yX8_droppedOf : MethodName := ⟨RX8, "droppedOf", "(LSeaWatches$Ship;I)I"⟩
abbrev cX9_in : ByteArray := prog_11_method_2_code
def yX9_in : MethodName := ⟨RX9, "in", "(III)Z"⟩
abbrev cX9_size : ByteArray := prog_11_method_3_code
def yX9_size : MethodName := ⟨RX9, "size", "(I)I"⟩
abbrev cX9_floor : ByteArray := prog_11_method_4_code
def yX9_floor : MethodName := ⟨RX9, "floor", "(JJ)J"⟩
abbrev cX9_init : ByteArray := prog_11_method_5_code
def yX9_init : MethodName := ⟨RX9, "<init>", "()V"⟩
abbrev cX9_isPlace : ByteArray := prog_11_method_6_code
def yX9_isPlace : MethodName := ⟨RX9, "isPlace", "(I)Z"⟩
abbrev cX9_isDay : ByteArray := prog_11_method_7_code
def yX9_isDay : MethodName := ⟨RX9, "isDay", "(I)Z"⟩
abbrev cX9_isWatch : ByteArray := prog_11_method_8_code
def yX9_isWatch : MethodName := ⟨RX9, "isWatch", "(I)Z"⟩
abbrev cX9_watchAt : ByteArray := prog_11_method_9_code
def yX9_watchAt : MethodName := ⟨RX9, "watchAt", "(I)I"⟩
abbrev cX9_days : ByteArray := prog_11_method_10_code
def yX9_days : MethodName := ⟨RX9, "days", "(I)I"⟩
abbrev cX9_warmth : ByteArray := prog_11_method_11_code
def yX9_warmth : MethodName := ⟨RX9, "warmth", "(II)I"⟩
abbrev cX9_put : ByteArray := prog_11_method_12_code
def yX9_put : MethodName := ⟨RX9, "put", "(III)I"⟩
abbrev cX9_holderNow : ByteArray := prog_11_method_13_code
def yX9_holderNow : MethodName := ⟨RX9, "holderNow", "(I)I"⟩
abbrev cX9_take : ByteArray := prog_11_method_14_code
def yX9_take : MethodName := ⟨RX9, "take", "(I)I"⟩
abbrev cX9_holds : ByteArray := prog_11_method_15_code
def yX9_holds : MethodName := ⟨RX9, "holds", "(I)I"⟩
abbrev cX9_read : ByteArray := prog_11_method_16_code
def yX9_read : MethodName := ⟨RX9, "read", "(I)I"⟩
abbrev cX9_compare : ByteArray := prog_11_method_17_code
def yX9_compare : MethodName := ⟨RX9, "compare", "(IIII)I"⟩
abbrev cX9_errorOf : ByteArray := prog_11_method_18_code
def yX9_errorOf : MethodName := ⟨RX9, "errorOf", "(III)I"⟩
abbrev cX9_rateOf : ByteArray := prog_11_method_19_code
def yX9_rateOf : MethodName := ⟨RX9, "rateOf", "(III)I"⟩
abbrev cX9_isKnown : ByteArray := prog_11_method_20_code
def yX9_isKnown : MethodName := ⟨RX9, "isKnown", "(I)Z"⟩
abbrev cX9_error : ByteArray := prog_11_method_21_code
def yX9_error : MethodName := ⟨RX9, "error", "(III)I"⟩
abbrev cX9_rate : ByteArray := prog_11_method_22_code
def yX9_rate : MethodName := ⟨RX9, "rate", "(III)I"⟩
abbrev cX9_repair : ByteArray := prog_11_method_23_code
def yX9_repair : MethodName := ⟨RX9, "repair", "(II)I"⟩
abbrev cX9_late : ByteArray := prog_11_method_24_code
def yX9_late : MethodName := ⟨RX9, "late", "(II)I"⟩
abbrev cX9_ageOf : ByteArray := prog_11_method_25_code
def yX9_ageOf : MethodName := ⟨RX9, "ageOf", "(II)I"⟩
abbrev cX9_age : ByteArray := prog_11_method_26_code
def yX9_age : MethodName := ⟨RX9, "age", "(II)I"⟩
abbrev cX9_off : ByteArray := prog_11_method_27_code
def yX9_off : MethodName := ⟨RX9, "off", "(IIII)I"⟩
abbrev cX9_areDays : ByteArray := prog_11_method_28_code
def yX9_areDays : MethodName := ⟨RX9, "areDays", "(II)Z"⟩
abbrev cX9_changed : ByteArray := prog_11_method_29_code
def yX9_changed : MethodName := ⟨RX9, "changed", "(IIII)I"⟩
abbrev cX9_warmthOf : ByteArray := prog_11_method_30_code
def yX9_warmthOf : MethodName := ⟨RX9, "warmthOf", "(II)I"⟩
abbrev cX9_sumUp : ByteArray := prog_11_method_31_code
def yX9_sumUp : MethodName := ⟨RX9, "sumUp", "(III)V"⟩
abbrev cX9_three : ByteArray := prog_11_method_32_code
def yX9_three : MethodName := ⟨RX9, "three", "()J"⟩
abbrev cX9_two : ByteArray := prog_11_method_33_code
def yX9_two : MethodName := ⟨RX9, "two", "(JJ)J"⟩
abbrev cX9_termsNow : ByteArray := prog_11_method_34_code
def yX9_termsNow : MethodName := ⟨RX9, "termsNow", "()I"⟩
abbrev cX9_asked : ByteArray := prog_11_method_35_code
def yX9_asked : MethodName := ⟨RX9, "asked", "(III)I"⟩
abbrev cX9_law : ByteArray := prog_11_method_36_code
def yX9_law : MethodName := ⟨RX9, "law", "(III)I"⟩
abbrev cX9_terms : ByteArray := prog_11_method_37_code
def yX9_terms : MethodName := ⟨RX9, "terms", "(III)I"⟩
abbrev cX9_byTwo : ByteArray := prog_11_method_38_code
def yX9_byTwo : MethodName := ⟨RX9, "byTwo", "(JJJJ)V"⟩
abbrev cX9_byThree : ByteArray := prog_11_method_39_code
def yX9_byThree : MethodName := ⟨RX9, "byThree", "(JJ)V"⟩
abbrev cX9_foretold : ByteArray := prog_11_method_40_code
def yX9_foretold : MethodName := ⟨RX9, "foretold", "(IIIII)I"⟩
abbrev cX9_findRates : ByteArray := prog_11_method_41_code
def yX9_findRates : MethodName := ⟨RX9, "findRates", "(III)V"⟩
abbrev cX9_jump : ByteArray := prog_11_method_42_code
def yX9_jump : MethodName := ⟨RX9, "jump", "(IIII)I"⟩
abbrev cX9_feed : ByteArray := prog_11_method_43_code
def yX9_feed : MethodName := ⟨RX9, "feed", "(II)I"⟩
abbrev cX9_isLetter : ByteArray := prog_11_method_44_code
def yX9_isLetter : MethodName := ⟨RX9, "isLetter", "(I)Z"⟩
abbrev cX9_isDigit : ByteArray := prog_11_method_45_code
def yX9_isDigit : MethodName := ⟨RX9, "isDigit", "(I)Z"⟩
abbrev cX9_advance : ByteArray := prog_11_method_46_code
def yX9_advance : MethodName := ⟨RX9, "advance", "(I)V"⟩
abbrev cX9_signOf : ByteArray := prog_11_method_47_code
def yX9_signOf : MethodName := ⟨RX9, "signOf", "(I)I"⟩
abbrev cX9_wordOf : ByteArray := prog_11_method_48_code
def yX9_wordOf : MethodName := ⟨RX9, "wordOf", "(JI)I"⟩
abbrev cX9_tight : ByteArray := prog_11_method_49_code
def yX9_tight : MethodName := ⟨RX9, "tight", "(I)I"⟩
abbrev cX9_lay : ByteArray := prog_11_method_50_code
def yX9_lay : MethodName := ⟨RX9, "lay", "(II)V"⟩
abbrev cX9_done : ByteArray := prog_11_method_51_code
def yX9_done : MethodName := ⟨RX9, "done", "(I)V"⟩
abbrev cX9_opened : ByteArray := prog_11_method_52_code
def yX9_opened : MethodName := ⟨RX9, "opened", "()I"⟩
abbrev cX9_readRule : ByteArray := prog_11_method_53_code
def yX9_readRule : MethodName := ⟨RX9, "readRule", "(I)I"⟩
abbrev cX9_rule : ByteArray := prog_11_method_54_code
def yX9_rule : MethodName := ⟨RX9, "rule", "(I)I"⟩
abbrev cX9_both : ByteArray := prog_11_method_55_code
def yX9_both : MethodName := ⟨RX9, "both", "(III)I"⟩
abbrev cX9_says : ByteArray := prog_11_method_56_code
def yX9_says : MethodName := ⟨RX9, "says", "(I)I"⟩
abbrev cX9_trialOf : ByteArray := prog_11_method_57_code
def yX9_trialOf : MethodName := ⟨RX9, "trialOf", "(III)I"⟩
abbrev cX9_hasTrial : ByteArray := prog_11_method_58_code
def yX9_hasTrial : MethodName := ⟨RX9, "hasTrial", "(III)Z"⟩
abbrev cX9_trial : ByteArray := prog_11_method_59_code
def yX9_trial : MethodName := ⟨RX9, "trial", "(III)I"⟩
abbrev cX9_order : ByteArray := prog_11_method_60_code
def yX9_order : MethodName := ⟨RX9, "order", "(III)I"⟩
abbrev cX9_isShip : ByteArray := prog_11_method_61_code
def yX9_isShip : MethodName := ⟨RX9, "isShip", "(I)Z"⟩
abbrev cX9_goesTo : ByteArray := prog_11_method_62_code
def yX9_goesTo : MethodName := ⟨RX9, "goesTo", "(II)V"⟩
abbrev cX9_maySail : ByteArray := prog_11_method_63_code
def yX9_maySail : MethodName := ⟨RX9, "maySail", "(I)Z"⟩
abbrev cX9_sail : ByteArray := prog_11_method_64_code
def yX9_sail : MethodName := ⟨RX9, "sail", "(IIII)I"⟩
abbrev cX9_carried : ByteArray := prog_11_method_65_code
def yX9_carried : MethodName := ⟨RX9, "carried", "(III)I"⟩
abbrev cX9_isShown : ByteArray := prog_11_method_66_code
def yX9_isShown : MethodName := ⟨RX9, "isShown", "(I)Z"⟩
abbrev cX9_sight : ByteArray := prog_11_method_67_code
def yX9_sight : MethodName := ⟨RX9, "sight", "(IIIII)I"⟩
abbrev cX9_work : ByteArray := prog_11_method_68_code
def yX9_work : MethodName := ⟨RX9, "work", "(II)I"⟩
abbrev cX9_told : ByteArray := prog_11_method_69_code
def yX9_told : MethodName := ⟨RX9, "told", "(III)I"⟩
abbrev cX9_back : ByteArray := prog_11_method_70_code
def yX9_back : MethodName := ⟨RX9, "back", "(IIII)I"⟩
abbrev cX9_state : ByteArray := prog_11_method_71_code
def yX9_state : MethodName := ⟨RX9, "state", "(I)I"⟩
abbrev cX9_doubt : ByteArray := prog_11_method_72_code
def yX9_doubt : MethodName := ⟨RX9, "doubt", "(I)I"⟩
abbrev cX9_secondOf : ByteArray := prog_11_method_73_code
def yX9_secondOf : MethodName := ⟨RX9, "secondOf", "(I)I"⟩
abbrev cX9_isWay : ByteArray := prog_11_method_74_code
def yX9_isWay : MethodName := ⟨RX9, "isWay", "(I)Z"⟩
abbrev cX9_deal : ByteArray := prog_11_method_75_code
def yX9_deal : MethodName := ⟨RX9, "deal", "(III)I"⟩
abbrev cX9_dealt : ByteArray := prog_11_method_76_code
def yX9_dealt : MethodName := ⟨RX9, "dealt", "(I)I"⟩
abbrev cX9_lend : ByteArray := prog_11_method_77_code
def yX9_lend : MethodName := ⟨RX9, "lend", "(II)I"⟩
abbrev cX9_home : ByteArray := prog_11_method_78_code
def yX9_home : MethodName := ⟨RX9, "home", "(I)I"⟩
abbrev cX9_holder : ByteArray := prog_11_method_79_code
def yX9_holder : MethodName := ⟨RX9, "holder", "(II)I"⟩
abbrev cX9_away : ByteArray := prog_11_method_80_code
def yX9_away : MethodName := ⟨RX9, "away", "(I)I"⟩
abbrev cX9_count : ByteArray := prog_11_method_81_code
def yX9_count : MethodName := ⟨RX9, "count", "(I)I"⟩
abbrev vwCl : List vw_C := [(RX0, TX0, 9), (RX1, TX1, 15), (RX2, TX2, 6), (RX3, TX3, 4), (RX4, TX4, 4), (RX5, TX5, 11), (RX6, TX6, 8), (RX7, TX7, 4), (RX8, TX8, 14), (RX9, TX9, 68)]
/-- the words that a method may use: those of the tables that are kept over calls -/
def tb : List Cond := lw_tbl.filter goodWord
theorem tb_in {w : Cond} (h : w ∈ tb) : w ∈ lw_tbl := (List.mem_filter.mp h).1
theorem gW {ws : List Cond} (h : ∀ w ∈ ws, w ∈ tb) : GoodIn tb ws := fun w hw => ⟨h w hw, good_of_word (List.mem_filter.mp (h w hw)).2⟩
theorem tb_t {w : Cond} (i : Nat) (h : tables_1[i]? = some w) (hg : goodWord w = true) : w ∈ tb := List.mem_filter.mpr ⟨List.mem_append_right _ (List.mem_of_getElem? h), hg⟩
theorem tb_s {w : Cond} (i : Nat) (h : (k2_sels lw_privs)[i]? = some w) (hg : goodWord w = true) : w ∈ tb := List.mem_filter.mpr ⟨List.mem_append_left _ (List.mem_of_getElem? h), hg⟩
theorem lw_t {w : Cond} (i : Nat) (h : tables_1[i]? = some w) : w ∈ lw_tbl := List.mem_append_right _ (List.mem_of_getElem? h)
theorem tb_r {ws : List Cond} (ps : List Nat) (hp : ws = ps.filterMap (fun i => tables_1[i]?)) (hg : ws.all goodWord = true) : ∀ w ∈ ws, w ∈ tb := by
  intro w hw
  have h1 := List.all_eq_true.mp hg w hw
  rw [hp] at hw
  obtain ⟨i, -, hi⟩ := List.mem_filterMap.mp hw
  exact tb_t i hi h1
theorem iX0 : ∀ w ∈ wsX00, w ∈ tb := tb_r [202, 204, 206, 208, 210, 212, 214, 216, 218] (by decide +kernel) (by decide +kernel)
theorem iX1 : ∀ w ∈ wsX10, w ∈ tb := tb_r [98, 100, 102, 104, 106, 108, 110, 112, 114, 116, 118, 120, 122, 124, 126] (by decide +kernel) (by decide +kernel)
theorem iX2 : ∀ w ∈ wsX20, w ∈ tb := tb_r [41, 43, 45, 47, 49, 51] (by decide +kernel) (by decide +kernel)
theorem iX3 : ∀ w ∈ wsX30, w ∈ tb := tb_r [68, 70, 72, 74] (by decide +kernel) (by decide +kernel)
theorem iX4 : ∀ w ∈ wsX40, w ∈ tb := tb_r [147, 149, 151, 153] (by decide +kernel) (by decide +kernel)
theorem iX5 : ∀ w ∈ wsX50, w ∈ tb := tb_r [249, 251, 253, 255, 257, 259, 261, 263, 265, 267, 269] (by decide +kernel) (by decide +kernel)
theorem iX6 : ∀ w ∈ wsX60, w ∈ tb := tb_r [166, 168, 170, 172, 174, 176, 178, 180] (by decide +kernel) (by decide +kernel)
theorem iX7 : ∀ w ∈ wsX70, w ∈ tb := tb_r [352, 354, 356, 358] (by decide +kernel) (by decide +kernel)
theorem iX8 : ∀ w ∈ wsX80, w ∈ tb := tb_r [286, 288, 290, 292, 294, 296, 298, 300, 302, 304, 306, 308, 310, 312] (by decide +kernel) (by decide +kernel)
theorem iX9 : ∀ w ∈ wsX90, w ∈ tb := tb_r [1026, 1028, 1030, 1032, 1034, 1036, 1038, 1040, 1042, 1044, 1046, 1048, 1050, 1052, 1054, 1056, 1058, 1060, 1062, 1064, 1066, 1068, 1070, 1072, 1074, 1076, 1078, 1080, 1082, 1084, 1086, 1088, 1090, 1092, 1094, 1096, 1098, 1100, 1102, 1104, 1106, 1108, 1110, 1112, 1114, 1116, 1118, 1120, 1122, 1124, 1126, 1128, 1130, 1132, 1134, 1136, 1138, 1140, 1142, 1144, 1146, 1148, 1150, 1152, 1154, 1156, 1158, 1160] (by decide +kernel) (by decide +kernel)
end
section
/-! ===== the context of all contracts: classes and array classes (E 0 int, E 1 boolean, E 2 byte, E 3 Watch, E 4 Ship), links between nest mates, strings (E 5, E 6, E 7) ===== -/
abbrev TY (E : Nat → Nat) : List (ClassId × FieldType) := [(E 0, .int), (E 1, .boolean), (E 2, .byte), (E 3, .object "SeaWatches$Watch"), (E 4, .object "SeaWatches$Ship")]
def nestW : List Cond := [.methodLinkNest RX8 36 yX2_init RX8, .fieldLinkNest RX8 142 "SeaWatches$Offs" "size" "I" "SeaWatches", .methodLinkNest RX8 43 yX3_init RX8, .fieldLinkNest RX8 312 "SeaWatches$Rates" "days" "[I" "SeaWatches", .fieldLinkNest RX8 318 "SeaWatches$Rates" "values" "[I" "SeaWatches", .fieldLinkNest RX8 311 "SeaWatches$Rates" "size" "I" "SeaWatches", .methodLinkNest RX8 50 yX1_init RX8, .methodLinkNest RX8 57 yX6_init RX8, .methodLinkNest RX6 21 yX4_init RX8, .fieldLinkNest RX6 44 "SeaWatches$Rule" "size" "I" "SeaWatches", .fieldLinkNest RX8 327 "SeaWatches$Rule" "size" "I" "SeaWatches", .fieldLinkNest RX8 179 "SeaWatches$Tape" "size" "I" "SeaWatches", .methodLinkNest RX8 64 yX0_init RX8, .fieldLinkNest RX8 285 "SeaWatches$Dealing" "best" "[I" "SeaWatches", .fieldLinkNest RX8 275 "SeaWatches$Dealing" "listed" "I" "SeaWatches", .fieldLinkNest RX8 282 "SeaWatches$Dealing" "shared" "I" "SeaWatches", .methodLinkNest RX8 71 yX4_init RX8, .methodLinkNest RX8 83 yX5_init RX8, .fieldLinkNest RX8 220 "SeaWatches$Ship" "places" "[I" "SeaWatches", .fieldLinkNest RX8 223 "SeaWatches$Ship" "starts" "[I" "SeaWatches", .fieldLinkNest RX8 226 "SeaWatches$Ship" "goings" "[I" "SeaWatches", .fieldLinkNest RX8 229 "SeaWatches$Ship" "doubts" "[I" "SeaWatches", .fieldLinkNest RX8 368 "SeaWatches$Ship" "ends" "[I" "SeaWatches", .fieldLinkNest RX8 243 "SeaWatches$Ship" "sightDays" "[I" "SeaWatches", .fieldLinkNest RX8 236 "SeaWatches$Ship" "sights" "I" "SeaWatches", .fieldLinkNest RX8 208 "SeaWatches$Ship" "stage" "I" "SeaWatches", .fieldLinkNest RX8 262 "SeaWatches$Ship" "sailed" "I" "SeaWatches", .fieldLinkNest RX8 272 "SeaWatches$Ship" "voyage" "I" "SeaWatches", .methodLinkNest RX8 301 yX7_init RX8, .methodLinkNest RX7 24 yX8_isDay RX8, .methodLinkNest RX7 45 yX8_isWithin RX8]
def isNw : Cond → Bool
  | .fieldLinkNest .. => true
  | .methodLinkNest .. => true
  | _ => false
theorem nestW_is : ∀ w ∈ nestW, isNw w = true := by decide +kernel
theorem nestW_in : ∀ w ∈ nestW, w ∈ lw_tbl := by
  intro w hw
  have hp : nestW = ([30, 40, 57, 62, 64, 67, 79, 131, 137, 145, 146, 159, 186, 193, 197, 199, 222, 224, 229, 231, 233, 235, 237, 239, 242, 244, 246, 248, 344, 377, 438] : List Nat).filterMap (fun i => tables_1[i]?) := by decide +kernel
  rw [hp] at hw
  obtain ⟨i, -, hi⟩ := List.mem_filterMap.mp hw
  exact lw_t i hi
theorem nw_warm {w : Cond} {s U : State} (h : isNw w = true) (hW : s.WarmedH U.vm) (hZ : va_Nw w s) : va_Nw w U := by
  cases w <;> first | exact va_Nw.warmF hW hZ | exact va_Nw.warmM hW hZ | cases h
theorem nw_tab {w : Cond} (h : isNw w = true) : w.onTables = true := by
  cases w <;> first | rfl | cases h
def KX (D : va_G) (E : Nat → Nat) (U : State) : Prop := va_K D vwCl (TY E) U ∧ (∀ w ∈ nestW, va_Nw w U) ∧ (va_AO "SeaWatches$Watch" U ∧ va_AO "SeaWatches$Ship" U) ∧ vk_R RX6 26 "" (E 5) U ∧ vk_R RX8 182 "or and not abs days least most span gaps jump drift sum warm" (E 6) U ∧ vk_R RX8 184 "or and not abs off doubt days which" (E 7) U
theorem KX.warm {D : va_G} {E : Nat → Nat} {s U : State} (hW : s.WarmedH U.vm) (h : KX D E s) : KX D E U :=
  ⟨va_K.moved hW.alike h.1, fun w hw => nw_warm (nestW_is w hw) hW (h.2.1 w hw), ⟨va_AO.moved hW.alike h.2.2.1.1, va_AO.moved hW.alike h.2.2.1.2⟩, vk_R.warm hW h.2.2.2.1, vk_R.warm hW h.2.2.2.2.1, vk_R.warm hW h.2.2.2.2.2⟩
theorem KX.calling {D : va_G} {E : Nat → Nat} {U : State} (g : JFrame) (mk : MethodId) (a : Array Value) (h : KX D E U) : KX D E (U.calling g mk a) :=
  ⟨va_K.moved (u := U) (U := U.calling g mk a) (Vm.Alike.refl U.vm) h.1, fun w hw => va_Nw.same (nw_tab (nestW_is w hw)) (u := U) rfl (h.2.1 w hw), ⟨va_AO.moved (u := U) (U := U.calling g mk a) (Vm.Alike.refl U.vm) h.2.2.1.1, va_AO.moved (u := U) (U := U.calling g mk a) (Vm.Alike.refl U.vm) h.2.2.1.2⟩, vk_R.same (u := U) rfl h.2.2.2.1, vk_R.same (u := U) rfl h.2.2.2.2.1, vk_R.same (u := U) rfl h.2.2.2.2.2⟩
/-! ===== numbers ===== -/
theorem i_lt {a b : Int32} : a < b ↔ a.toInt < b.toInt := Int32.lt_iff_toInt_lt
theorem i_le {a b : Int32} : a ≤ b ↔ a.toInt ≤ b.toInt := Int32.le_iff_toInt_le
theorem i_eq {a b : Int32} : a = b ↔ a.toInt = b.toInt := Int32.toInt_inj.symm
theorem i_lo (a : Int32) : -2147483648 ≤ a.toInt := by have := Int32.le_toInt a; simpa using this
theorem i_hi (a : Int32) : a.toInt ≤ 2147483647 := by have := Int32.toInt_lt a; have : a.toInt < 2147483648 := by simpa using this
                                                      omega
theorem i_bmod {x : Int} (h1 : -2147483648 ≤ x) (h2 : x ≤ 2147483647) : x.bmod (2 ^ 32) = x := by
  rw [Int.bmod_def]
  have : ((2 ^ 32 : Nat) : Int) = 4294967296 := by decide
  rw [this]
  split <;> omega
theorem i_add {a b : Int32} (h1 : -2147483648 ≤ a.toInt + b.toInt) (h2 : a.toInt + b.toInt ≤ 2147483647) : (a + b).toInt = a.toInt + b.toInt := by
  rw [Int32.toInt_add]; exact i_bmod h1 h2
theorem i_sub {a b : Int32} (h1 : -2147483648 ≤ a.toInt - b.toInt) (h2 : a.toInt - b.toInt ≤ 2147483647) : (a - b).toInt = a.toInt - b.toInt := by
  rw [Int32.toInt_sub]; exact i_bmod h1 h2
theorem i_mul {a b : Int32} (h1 : -2147483648 ≤ a.toInt * b.toInt) (h2 : a.toInt * b.toInt ≤ 2147483647) : (a * b).toInt = a.toInt * b.toInt := by
  rw [Int32.toInt_mul]; exact i_bmod h1 h2
theorem g_add {a b : Int32} {x y : Int} (ha : a.toInt = x) (hb : b.toInt = y) (h1 : -2147483648 ≤ x + y) (h2 : x + y ≤ 2147483647) : (a + b).toInt = x + y := by subst ha; subst hb; exact i_add h1 h2
theorem g_sub {a b : Int32} {x y : Int} (ha : a.toInt = x) (hb : b.toInt = y) (h1 : -2147483648 ≤ x - y) (h2 : x - y ≤ 2147483647) : (a - b).toInt = x - y := by subst ha; subst hb; exact i_sub h1 h2
theorem g_mul {a b : Int32} {x y : Int} (ha : a.toInt = x) (hb : b.toInt = y) (h1 : -2147483648 ≤ x * y) (h2 : x * y ≤ 2147483647) : (a * b).toInt = x * y := by subst ha; subst hb; exact i_mul h1 h2
theorem g_lt {a b : Int32} {x y : Int} (ha : a.toInt = x) (hb : b.toInt = y) : a < b ↔ x < y := by subst ha; subst hb; exact i_lt
theorem g_le {a b : Int32} {x y : Int} (ha : a.toInt = x) (hb : b.toInt = y) : a ≤ b ↔ x ≤ y := by subst ha; subst hb; exact i_le
theorem g_eq {a b : Int32} {x y : Int} (ha : a.toInt = x) (hb : b.toInt = y) : a = b ↔ x = y := by subst ha; subst hb; exact i_eq
theorem g_in {a : Int32} {x : Int} {n : Nat} (ha : a.toInt = x) (h1 : 0 ≤ x) (h2 : x < n) : vp_in a n := by subst ha; exact vp_in_iff.mpr ⟨h1, h2⟩
theorem i_in {x : Int32} {n : Nat} (h1 : 0 ≤ x.toInt) (h2 : x.toInt < n) : vp_in x n := vp_in_iff.mpr ⟨h1, h2⟩
theorem i_clamp {x : Int32} (h : 0 ≤ x.toInt) : (x.toNatClampNeg : Int) = x.toInt := by
  have h2 : x.toNatClampNeg = x.toInt.toNat := rfl
  rw [h2]; exact Int.toNat_of_nonneg h
/-! ===== methods: their words, room, contracts ===== -/
abbrev wl (y : MethodName) (b : ByteArray) (n : Nat) (r : Option FieldType) : List Cond := Cond.code y b n r :: tb
def RM (d mc ms : Nat) : Room := { frames := d, cells := mc, slots := ms, locals := 40 * d }
theorem gC {y : MethodName} {b : ByteArray} {n : Nat} {r : Option FieldType} (h : Cond.code y b n r ∈ tb) : GoodIn tb (wl y b n r) := gW (fun w hw => (List.mem_cons.mp hw).elim (fun e => by rw [e]; exact h) id)
def yOk (y : MethodName) (n : Nat) : Prop := y.cls ≠ "java/lang/invoke/MethodHandle" ∧ y.cls ≠ "java/lang/invoke/VarHandle" ∧ (parseMethodDescriptor y.desc).map (fun d => d.parameters.length) = some n
/-- a method that only reads: its answer, the heap as it was -/
def rd_Q (post : Int32 → Prop) : Array Value → State → Outcome → State → Prop := fun _ st oc t => ∃ r : Int32, oc = .returned (some (.int r)) ∧ post r ∧ t.heap = st.heap
/-- .. and answers null -/
def rn_Q : Array Value → State → Outcome → State → Prop := fun _ st oc t => oc = .returned (some .null) ∧ t.heap = st.heap
abbrev rd_P (D : va_G) (E : Nat → Nat) (av : List Value) (wc : va_W) : Array Value → State → Prop := va_Pc av (fun U => va_P D vwCl wc U.heap ∧ KX D E U)
abbrev mu_P (D : va_G) (E : Nat → Nat) (av : List Value) (wc : va_W) (sz : Nat) : Array Value → State → Prop := va_Pc av (fun U => U.heap.size = sz ∧ va_P D vwCl wc U.heap ∧ KX D E U ∧ va_D (fun _ => True) wc)
/-- what stands behind a method that writes -/
abbrev mu_B {S : Type} (D : va_G) (A : Nat → Prop) (w1 : S → va_W) : S → State → Prop := fun u t => va_P D vwCl (w1 u) t.heap ∧ va_D A (w1 u)
section CALLS
variable {p : Program} {l : Launch} {e : Env} {R : Room} {s : State} {m : MethodId} {args : Array Value} {below : List Frame} {meth : Method} {c : Code} {H : Heap} {locs : List Loc} {cells slots : Nat} {Q : State → Prop}
variable {cc : ByteArray} {pc : Nat} {ls : Array Slot} {rest st : List Value} {D : va_G} {E : Nat → Nat}
theorem W_top {x y : Value} (h : x = y) (k : W p l e R s m args below meth c H locs cells slots Q (F0 m pc ls (y :: rest))) : W p l e R s m args below meth c H locs cells slots Q (F0 m pc ls (x :: rest)) := by rw [h]; exact k
theorem rd_call {post : Int32 → Prop} {a : Array Value} (hr : CallRun p l e R s m args below meth c H locs cells slots 0 0 (F0 m pc ls st) rest (rd_Q post a) (fun _ => False))
    (kk : ∀ r : Int32, post r → W p l e R s m args below meth c H locs cells slots Q (F0 m (pc + 3) ls (.int r :: rest))) : W p l e R s m args below meth c H locs cells slots Q (F0 m pc ls st) := by
  intro T hT X
  obtain ⟨v, st₀, t, T', L, h0, X', hL, e1, ⟨r, hv, hp, hh⟩, st⟩ := hr T hT X
  cases hv
  obtain ⟨t2, a1, b1⟩ := kk r hp T' (by rw [e1, hh, h0]) (Stand.forget X' (fun q h => (hL q h).elim))
  exact ⟨t2, st t2 a1, b1⟩
theorem rn_call {a : Array Value} (hr : CallRun p l e R s m args below meth c H locs cells slots 0 0 (F0 m pc ls st) rest (rn_Q a) (fun _ => False))
    (kk : W p l e R s m args below meth c H locs cells slots Q (F0 m (pc + 3) ls (.null :: rest))) : W p l e R s m args below meth c H locs cells slots Q (F0 m pc ls st) := by
  intro T hT X
  obtain ⟨v, st₀, t, T', L, h0, X', hL, e1, ⟨hv, hh⟩, st⟩ := hr T hT X
  cases hv
  obtain ⟨t2, a1, b1⟩ := kk T' (by rw [e1, hh, h0]) (Stand.forget X' (fun q h => (hL q h).elim))
  exact ⟨t2, st t2 a1, b1⟩
theorem l_room {st : List Value} (h : (st.map fun v => v.category).sum ≤ 8) : 2 * (F0 m pc ls rest).monitorRoom + (st.map fun v => v.category).sum ≤ 8 := lv_room h
theorem prV {y : MethodName} {b : Nat} {As : List Value} {wc : va_W} (hP : va_P D vwCl wc H) (hK : KX D E s) {ci : Nat} {q : vw_C} {fs : List Value} (hc : vwCl[ci]? = some q) (hq : q.1 = y.cls) (q0 : Nat) (he : wc[q0]? = some (b, .inr (ci, fs))) : PreV s H y.cls b (rd_P D E (.ref b :: As) wc) As :=
  ⟨fun a U g mk z => ⟨z.1, z.2.1, z.2.2.calling g mk a⟩, by rw [← hq]; exact va_recv hK.1 hP hc he, fun U hU hW => ⟨rfl, by rw [hU]; exact hP, hK.warm hW⟩⟩
theorem prS {As : List Value} {wc : va_W} (hP : va_P D vwCl wc H) (hK : KX D E s) : PreS s H (rd_P D E As wc) As :=
  ⟨fun a U g mk z => ⟨z.1, z.2.1, z.2.2.calling g mk a⟩, fun U hU hW => ⟨rfl, by rw [hU]; exact hP, hK.warm hW⟩⟩
theorem pmV {y : MethodName} {b : Nat} {As : List Value} {wc : va_W} {A0 : Nat → Prop} (hP : va_P D vwCl wc H) (hD : va_D A0 wc) (hK : KX D E s) {ci : Nat} {q : vw_C} {fs : List Value} (hc : vwCl[ci]? = some q) (hq : q.1 = y.cls) (q0 : Nat) (he : wc[q0]? = some (b, .inr (ci, fs))) : PreV s H y.cls b (mu_P D E (.ref b :: As) wc H.size) As :=
  ⟨fun a U g mk z => ⟨z.1, z.2.1, z.2.2.1, z.2.2.2.1.calling g mk a, z.2.2.2.2⟩, by rw [← hq]; exact va_recv hK.1 hP hc he, fun U hU hW => ⟨rfl, by rw [hU], by rw [hU]; exact hP, hK.warm hW, hD.weaken (fun _ _ _ _ => trivial)⟩⟩
theorem pmS {As : List Value} {wc : va_W} {A0 : Nat → Prop} (hP : va_P D vwCl wc H) (hD : va_D A0 wc) (hK : KX D E s) : PreS s H (mu_P D E As wc H.size) As :=
  ⟨fun a U g mk z => ⟨z.1, z.2.1, z.2.2.1, z.2.2.2.1.calling g mk a, z.2.2.2.2⟩, fun U hU hW => ⟨rfl, by rw [hU], by rw [hU]; exact hP, hK.warm hW, hD.weaken (fun _ _ _ _ => trivial)⟩⟩
variable {nL n idx d mc ms maxL : Nat} {own : String} {y : MethodName} {bytes : ByteArray} {ret : Option FieldType}
theorem cB (htb : ∀ w ∈ tb, w.before args s = true) (hy : yOk y n) (k1 : Cond.methodLink own idx y ∈ tb) (k4 : Cond.initialized y.cls ∈ tb) (k5 : Cond.code y bytes maxL ret ∈ tb) (hR : d + 1 ≤ R.frames ∧ 8 + (maxL + 11) + 40 * d ≤ R.locals) : CallB R s args own idx y bytes maxL ret (wl y bytes maxL ret) (RM d mc ms) mc ms n :=
  callB_of n htb (gC k5) rfl rfl rfl (htb _ k4) (htb _ k1) hy hR
theorem cN {host : String} (htb : ∀ w ∈ tb, w.before args s = true) (hy : yOk y n) (hK : KX D E s) (k1 : Cond.methodLinkNest own idx y host ∈ nestW) (k4 : Cond.initialized y.cls ∈ tb) (k5 : Cond.code y bytes maxL ret ∈ tb) (hR : d + 1 ≤ R.frames ∧ 8 + (maxL + 11) + 40 * d ≤ R.locals) : va_CN R s args own idx y host bytes maxL ret (wl y bytes maxL ret) (RM d mc ms) mc ms n :=
  va_cnB n htb (gC k5) rfl rfl rfl (hK.2.1 _ k1) (htb _ k4) hy hR
/-- a reading method of an object -/
theorem callRV (hx : p.tables.exec = Jvm.exec) (hb : c.code = cc) (hml : c.maxLocals = nL) (hown : s.vm.findClass own = some m.cls) (htb : ∀ w ∈ tb, w.before args s = true) (hK : KX D E s)
    {b : Nat} {As : List Value} {wc : va_W} {post : Int32 → Prop} (hM : Met l y (wl y bytes maxL ret) (RM d 0 0) (rd_P D E (.ref b :: As) wc) (rd_Q post) 0 0 (fun _ => False)) (hy : yOk y n)
    (k1 : Cond.methodLink own idx y ∈ tb) (k2 : Cond.instanceMethod y ∈ tb) (k3 : Cond.selects y.cls y y ∈ tb) (k4 : Cond.initialized y.cls ∈ tb) (k5 : Cond.code y bytes maxL ret ∈ tb)
    (hR : d + 1 ≤ R.frames ∧ 8 + (maxL + 11) + 40 * d ≤ R.locals) (hf : cells ≤ R.cells ∧ slots ≤ R.slots) (hls : ls.size = nL) (hroom : (rest.map fun v => v.category).sum ≤ 8) (hn : As.length = n) (hst : st = As.reverse ++ .ref b :: rest) (hdg : decode cc pc = .ok (.invokevirtual idx, 3))
    (hP : va_P D vwCl wc H) {ci : Nat} {q : vw_C} {fs : List Value} (hc : vwCl[ci]? = some q) (hq : q.1 = y.cls) (q0 : Nat) (he : wc[q0]? = some (b, .inr (ci, fs)))
    (kk : ∀ r : Int32, post r → W p l e R s m args below meth c H locs cells slots Q (F0 m (pc + 3) ls (.int r :: rest))) : W p l e R s m args below meth c H locs cells slots Q (F0 m pc ls st) :=
  rd_call (W.runV (As := As) (rest := rest) (b := b) (C := y.cls) ⟨hx, hb, hml, hown, htb⟩ hM ⟨cB htb hy k1 k4 k5 hR, htb _ k2, htb _ k3⟩ (prV hP hK hc hq q0 he) rfl hn hls hst (l_room hroom) hdg hf) kk
theorem callRS (hx : p.tables.exec = Jvm.exec) (hb : c.code = cc) (hml : c.maxLocals = nL) (hown : s.vm.findClass own = some m.cls) (htb : ∀ w ∈ tb, w.before args s = true) (hK : KX D E s)
    {As : List Value} {wc : va_W} {post : Int32 → Prop} (hM : Met l y (wl y bytes maxL ret) (RM d 0 0) (rd_P D E As wc) (rd_Q post) 0 0 (fun _ => False)) (hy : yOk y n)
    (k1 : Cond.methodLink own idx y ∈ tb) (k2 : Cond.static y ∈ tb) (k4 : Cond.initialized y.cls ∈ tb) (k5 : Cond.code y bytes maxL ret ∈ tb)
    (hR : d + 1 ≤ R.frames ∧ 8 + (maxL + 11) + 40 * d ≤ R.locals) (hf : cells ≤ R.cells ∧ slots ≤ R.slots) (hls : ls.size = nL) (hroom : (rest.map fun v => v.category).sum ≤ 8) (hn : As.length = n) (hst : st = As.reverse ++ rest) (hdg : decode cc pc = .ok (.invokestatic idx, 3))
    (hP : va_P D vwCl wc H)
    (kk : ∀ r : Int32, post r → W p l e R s m args below meth c H locs cells slots Q (F0 m (pc + 3) ls (.int r :: rest))) : W p l e R s m args below meth c H locs cells slots Q (F0 m pc ls st) :=
  rd_call (W.runS (As := As) (rest := rest) ⟨hx, hb, hml, hown, htb⟩ hM ⟨cB htb hy k1 k4 k5 hR, htb _ k2⟩ (prS hP hK) rfl hn hls hst (l_room hroom) hdg hf) kk
theorem callNV (hx : p.tables.exec = Jvm.exec) (hb : c.code = cc) (hml : c.maxLocals = nL) (hown : s.vm.findClass own = some m.cls) (htb : ∀ w ∈ tb, w.before args s = true) (hK : KX D E s)
    {b : Nat} {As : List Value} {wc : va_W} (hM : Met l y (wl y bytes maxL ret) (RM d 0 0) (rd_P D E (.ref b :: As) wc) rn_Q 0 0 (fun _ => False)) (hy : yOk y n)
    (k1 : Cond.methodLink own idx y ∈ tb) (k2 : Cond.instanceMethod y ∈ tb) (k3 : Cond.selects y.cls y y ∈ tb) (k4 : Cond.initialized y.cls ∈ tb) (k5 : Cond.code y bytes maxL ret ∈ tb)
    (hR : d + 1 ≤ R.frames ∧ 8 + (maxL + 11) + 40 * d ≤ R.locals) (hf : cells ≤ R.cells ∧ slots ≤ R.slots) (hls : ls.size = nL) (hroom : (rest.map fun v => v.category).sum ≤ 8) (hn : As.length = n) (hst : st = As.reverse ++ .ref b :: rest) (hdg : decode cc pc = .ok (.invokevirtual idx, 3))
    (hP : va_P D vwCl wc H) {ci : Nat} {q : vw_C} {fs : List Value} (hc : vwCl[ci]? = some q) (hq : q.1 = y.cls) (q0 : Nat) (he : wc[q0]? = some (b, .inr (ci, fs)))
    (kk : W p l e R s m args below meth c H locs cells slots Q (F0 m (pc + 3) ls (.null :: rest))) : W p l e R s m args below meth c H locs cells slots Q (F0 m pc ls st) :=
  rn_call (W.runV (As := As) (rest := rest) (b := b) (C := y.cls) ⟨hx, hb, hml, hown, htb⟩ hM ⟨cB htb hy k1 k4 k5 hR, htb _ k2, htb _ k3⟩ (prV hP hK hc hq q0 he) rfl hn hls hst (l_room hroom) hdg hf) kk
/-- behind a method that writes: what it left, beside the rest -/
theorem aft_i {S : Type} {A0 : Nat → Prop} {H0 : Heap} {ws wc : va_W} {post : Int32 → S → Prop} {w1 : S → va_W} {a : Array Value}
    (hr : va_Run p l e R s m args below meth c H locs cells slots mc ms (F0 m pc ls st) rest (va_Qi post (mu_B D (va_A wc H.size) w1) (va_A wc H.size) a) (va_A wc H.size))
    (hP : va_P D vwCl ws H) (hD : va_D A0 ws) (hS : va_S A0 H0 H locs) (hA : ∀ q, H0.size ≤ q → A0 q) (isC isR : List Nat) {wr : va_W} (hC : isC.map (fun i => ws[i]?) = wc.map some) (hR : isR.map (fun i => ws[i]?) = wr.map some) (hn : va_nd isR = true) (hdis : ∀ i ∈ isR, i ∉ isC)
    (kk : ∀ (r : Int32) (u : S) (H1 : Heap) (locs1 : List Loc), post r u → va_P D vwCl (wr ++ w1 u) H1 → va_D A0 (wr ++ w1 u) → va_S A0 H0 H1 locs1 → W p l e R s m args below meth c H1 locs1 (cells + mc) (slots + ms) Q (F0 m (pc + 3) ls (.int r :: rest))) : W p l e R s m args below meth c H locs cells slots Q (F0 m pc ls st) := by
  have hFc := va_free (wc := wc) hD hS hA isC hC
  refine va_calli hr hS (fun q _ h => hFc q h) hFc (fun r u t H1 locs1 ht hvm hw hB hz1 hk1 hS => ?_)
  obtain ⟨hP1, hD1⟩ := hB
  rw [ht] at hP1
  obtain ⟨hP, hD⟩ := va_join hP hD isC isR hC hR hn hdis hk1 hFc hP1 hD1
  exact kk r u H1 locs1 hw hP hD hS
theorem aft_v {S : Type} {A0 : Nat → Prop} {H0 : Heap} {ws wc : va_W} {post : S → Prop} {w1 : S → va_W} {a : Array Value}
    (hr : va_Run p l e R s m args below meth c H locs cells slots mc ms (F0 m pc ls st) rest (va_Qv post (mu_B D (va_A wc H.size) w1) (va_A wc H.size) a) (va_A wc H.size))
    (hP : va_P D vwCl ws H) (hD : va_D A0 ws) (hS : va_S A0 H0 H locs) (hA : ∀ q, H0.size ≤ q → A0 q) (isC isR : List Nat) {wr : va_W} (hC : isC.map (fun i => ws[i]?) = wc.map some) (hR : isR.map (fun i => ws[i]?) = wr.map some) (hn : va_nd isR = true) (hdis : ∀ i ∈ isR, i ∉ isC)
    (kk : ∀ (u : S) (H1 : Heap) (locs1 : List Loc), post u → va_P D vwCl (wr ++ w1 u) H1 → va_D A0 (wr ++ w1 u) → va_S A0 H0 H1 locs1 → W p l e R s m args below meth c H1 locs1 (cells + mc) (slots + ms) Q (F0 m (pc + 3) ls rest)) : W p l e R s m args below meth c H locs cells slots Q (F0 m pc ls st) := by
  have hFc := va_free (wc := wc) hD hS hA isC hC
  refine va_callv hr hS (fun q _ h => hFc q h) hFc (fun u t H1 locs1 ht hvm hw hB hz1 hk1 hS => ?_)
  obtain ⟨hP1, hD1⟩ := hB
  rw [ht] at hP1
  obtain ⟨hP, hD⟩ := va_join hP hD isC isR hC hR hn hdis hk1 hFc hP1 hD1
  exact kk u H1 locs1 hw hP hD hS
/-- the runs of methods that write: of an object; a constructor (plain, of a nest mate) -/
theorem runMV {b : Nat} {As : List Value} {wc : va_W} {A0 : Nat → Prop} {Qc : Array Value → State → Outcome → State → Prop} (hx : p.tables.exec = Jvm.exec) (hb : c.code = cc) (hml : c.maxLocals = nL) (hown : s.vm.findClass own = some m.cls) (htb : ∀ w ∈ tb, w.before args s = true) (hK : KX D E s)
    (hM : Met l y (wl y bytes maxL ret) (RM d mc ms) (mu_P D E (.ref b :: As) wc H.size) Qc mc ms (va_A wc H.size)) (hy : yOk y n)
    (k1 : Cond.methodLink own idx y ∈ tb) (k2 : Cond.instanceMethod y ∈ tb) (k3 : Cond.selects y.cls y y ∈ tb) (k4 : Cond.initialized y.cls ∈ tb) (k5 : Cond.code y bytes maxL ret ∈ tb)
    (hR : d + 1 ≤ R.frames ∧ 8 + (maxL + 11) + 40 * d ≤ R.locals) (hf : cells + mc ≤ R.cells ∧ slots + ms ≤ R.slots) (hls : ls.size = nL) (hroom : (rest.map fun v => v.category).sum ≤ 8) (hn : As.length = n) (hst : st = As.reverse ++ .ref b :: rest) (hdg : decode cc pc = .ok (.invokevirtual idx, 3))
    (hP : va_P D vwCl wc H) (hD : va_D A0 wc) {ci : Nat} {q : vw_C} {fs : List Value} (hc : vwCl[ci]? = some q) (hq : q.1 = y.cls) (q0 : Nat) (he : wc[q0]? = some (b, .inr (ci, fs))) :
    va_Run p l e R s m args below meth c H locs cells slots mc ms (F0 m pc ls st) rest (Qc (Value.ref b :: As).toArray) (va_A wc H.size) :=
  va_runV (As := As) (rest := rest) (b := b) (C := y.cls) ⟨hx, hb, hml, hown, htb⟩ hM ⟨cB htb hy k1 k4 k5 hR, htb _ k2, htb _ k3⟩ (pmV hP hD hK hc hq q0 he) rfl hn hls hst (l_room hroom) hdg hf
theorem runMI {b : Nat} {As : List Value} {wc : va_W} {A0 : Nat → Prop} {Qc : Array Value → State → Outcome → State → Prop} (hx : p.tables.exec = Jvm.exec) (hb : c.code = cc) (hml : c.maxLocals = nL) (hown : s.vm.findClass own = some m.cls) (htb : ∀ w ∈ tb, w.before args s = true) (hK : KX D E s)
    (hM : Met l y (wl y bytes maxL none) (RM d mc ms) (mu_P D E (.ref b :: As) wc H.size) Qc mc ms (va_A wc H.size)) (hy : yOk y n) (hi : y.name = "<init>")
    (k1 : Cond.methodLink own idx y ∈ tb) (k2 : Cond.instanceMethod y ∈ tb) (k4 : Cond.initialized y.cls ∈ tb) (k5 : Cond.code y bytes maxL none ∈ tb)
    (hR : d + 1 ≤ R.frames ∧ 8 + (maxL + 11) + 40 * d ≤ R.locals) (hf : cells + mc ≤ R.cells ∧ slots + ms ≤ R.slots) (hls : ls.size = nL) (hroom : (rest.map fun v => v.category).sum ≤ 8) (hn : As.length = n) (hst : st = As.reverse ++ .ref b :: rest) (hdg : decode cc pc = .ok (.invokespecial idx, 3))
    (hP : va_P D vwCl wc H) (hD : va_D A0 wc) :
    va_Run p l e R s m args below meth c H locs cells slots mc ms (F0 m pc ls st) rest (Qc (Value.ref b :: As).toArray) (va_A wc H.size) :=
  va_runI (As := As) (rest := rest) (b := b) ⟨hx, hb, hml, hown, htb⟩ hM ⟨cB htb hy k1 k4 k5 hR, hi, htb _ k2⟩ (pmS hP hD hK) rfl hn hls hst (l_room hroom) hdg hf
theorem runMN {host : String} {b : Nat} {As : List Value} {wc : va_W} {A0 : Nat → Prop} {Qc : Array Value → State → Outcome → State → Prop} (hx : p.tables.exec = Jvm.exec) (hb : c.code = cc) (hml : c.maxLocals = nL) (hown : s.vm.findClass own = some m.cls) (htb : ∀ w ∈ tb, w.before args s = true) (hK : KX D E s)
    (hM : Met l y (wl y bytes maxL none) (RM d mc ms) (mu_P D E (.ref b :: As) wc H.size) Qc mc ms (va_A wc H.size)) (hy : yOk y n) (hi : y.name = "<init>")
    (k1 : Cond.methodLinkNest own idx y host ∈ nestW) (k2 : Cond.instanceMethod y ∈ tb) (k4 : Cond.initialized y.cls ∈ tb) (k5 : Cond.code y bytes maxL none ∈ tb)
    (hR : d + 1 ≤ R.frames ∧ 8 + (maxL + 11) + 40 * d ≤ R.locals) (hf : cells + mc ≤ R.cells ∧ slots + ms ≤ R.slots) (hls : ls.size = nL) (hroom : (rest.map fun v => v.category).sum ≤ 8) (hn : As.length = n) (hst : st = As.reverse ++ .ref b :: rest) (hdg : decode cc pc = .ok (.invokespecial idx, 3))
    (hP : va_P D vwCl wc H) (hD : va_D A0 wc) :
    va_Run p l e R s m args below meth c H locs cells slots mc ms (F0 m pc ls st) rest (Qc (Value.ref b :: As).toArray) (va_A wc H.size) :=
  va_runIN (As := As) (rest := rest) (b := b) ⟨hx, hb, hml, hown, htb⟩ hM ⟨cN htb hy hK k1 k4 k5 hR, hi, htb _ k2⟩ (pmS hP hD hK) rfl hn hls hst (l_room hroom) hdg hf
end CALLS
/-! ===== array classes are one for each kind; contents that agree; ===== -/
theorem ka_i {D : va_G} {cl : List vw_C} {tys : List (ClassId × FieldType)} {s : State} {cA cB : ClassId} {ty : FieldType} (hty : ∀ C, ty ≠ .object C) (h : va_K D cl (tys ++ [(cA, ty)]) s) (k : Nat) (hk : tys[k]? = some (cB, ty)) : cA = cB := by
  have h1 := (h.2 tys.length (cA, ty) (by simp)).2
  have h2 := (h.2 k (cB, ty) (by rw [List.getElem?_append_left (List.getElem?_eq_some_iff.mp hk).1]; exact hk)).2
  cases ty <;> first | exact Option.some.inj (h1.symm.trans h2) | exact absurd rfl (hty _)
theorem ka_o {D : va_G} {cl : List vw_C} {tys : List (ClassId × FieldType)} {s : State} {cA cB : ClassId} {C : String} (h : va_K D cl (tys ++ [(cA, .object C)]) s) (k : Nat) (hk : tys[k]? = some (cB, .object C)) : cA = cB := by
  obtain ⟨_, _, _, _, _, h1⟩ := (h.2 tys.length (cA, .object C) (by simp)).2
  obtain ⟨_, _, _, _, _, h2⟩ := (h.2 k (cB, .object C) (by rw [List.getElem?_append_left (List.getElem?_eq_some_iff.mp hk).1]; exact hk)).2
  exact Option.some.inj (h1.symm.trans h2)
theorem arrV_ext {cA : ClassId} {n : Nat} {f g : Nat → Value} (h : ∀ j, j < n → f j = g j) : arrV cA n f = arrV cA n g := by
  unfold arrV
  have : (fun j : Fin n => f j.val) = (fun j : Fin n => g j.val) := funext fun j => h j.val j.isLt
  rw [this]
theorem re_i {cA : ClassId} {n : Nat} {f g : Nat → Int32} (h : ∀ j, j < n → f j = g j) : vp_cell cA (n, .inl f) = vp_cell cA (n, .inl g) := by
  rw [vp_cell_i, vp_cell_i]; exact arrV_ext (fun j hj => by rw [h j hj])
theorem re_q {cA : ClassId} {n : Nat} {f g : Nat → Option Nat} (h : ∀ j, j < n → f j = g j) : vp_cell cA (n, .inr (.inr (.inr (.inr f)))) = vp_cell cA (n, .inr (.inr (.inr (.inr g)))) := by
  rw [vp_cell_q, vp_cell_q]; exact arrV_ext (fun j hj => by rw [h j hj])
theorem re_P {D : va_G} {cl : List vw_C} {ws : va_W} {H : Heap} {a : Nat} {cA : ClassId} {x y : vp_A} (h : va_P D cl ws H) (k : Nat) (hk : ws[k]? = some (a, .inl (cA, x))) (he : vp_cell cA x = vp_cell cA y) : va_P D cl (ws.set k (a, .inl (cA, y))) H := by
  have hl := (List.getElem?_eq_some_iff.mp hk).1
  intro i q hi
  by_cases hik : i = k
  · subst hik
    rw [List.getElem?_set_self hl] at hi
    cases hi
    have h1 := h i _ hk
    show H[a]? = some (vp_cell cA y)
    rw [← he]; exact h1
  · rw [List.getElem?_set_ne (Ne.symm hik)] at hi
    exact h i q hi
/-- new arrays of ints, booleans, bytes -/
theorem nw_i {N : Nat} (cA : ClassId) : vp_cell cA (N, .inl (fun _ => 0)) = arrV cA N (fun _ => defaultValue .int) := rfl
theorem nw_z {N : Nat} (cA : ClassId) : vp_cell cA (N, .inl (fun _ => 0)) = arrV cA N (fun _ => defaultValue .boolean) := rfl
theorem nw_b {N : Nat} (cA : ClassId) : vp_cell cA (N, .inl (fun _ => 0)) = arrV cA N (fun _ => defaultValue .byte) := rfl
/-! ===== the context holds at the law's start ===== -/
theorem sr_0 : Cond.stringRef RX6 26 "" ∈ lw_tbl := lw_t 156 (by decide +kernel)
theorem sr_1 : Cond.stringRef RX8 182 "or and not abs days least most span gaps jump drift sum warm" ∈ lw_tbl := lw_t 585 (by decide +kernel)
theorem sr_2 : Cond.stringRef RX8 184 "or and not abs off doubt days which" ∈ lw_tbl := lw_t 586 (by decide +kernel)
theorem ao_0 : Cond.arrayOver (.object "SeaWatches$Watch") ∈ lw_tbl := lw_t 25 (by decide +kernel)
theorem ao_1 : Cond.arrayOver (.object "SeaWatches$Ship") ∈ lw_tbl := lw_t 27 (by decide +kernel)
end
