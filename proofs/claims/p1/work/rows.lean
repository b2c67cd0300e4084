section
-- ===== PART A: goes FIRST, ahead of the names: the tables' words, and 'selects' of the private methods out of them =====
/-- a private method of a class that the tables say can be made, by its rows of tables_1 -/
def lw_okq (q : MethodName × Nat) : Prop := (q.1.cls ≠ "java/lang/invoke/MethodHandle" ∧ q.1.cls ≠ "java/lang/invoke/VarHandle") ∧ Cond.instantiable q.1.cls q.2 ∈ tables_1 ∧ Cond.privateMethod q.1 ∈ tables_1 ∧ Cond.instanceMethod q.1 ∈ tables_1
theorem lw_p0 : lw_okq (⟨"SeaWatches", "bringWatch", "(I)V"⟩, 14) := ⟨⟨by decide +kernel, by decide +kernel⟩, List.mem_of_getElem? (i := 17) (by decide +kernel), List.mem_of_getElem? (i := 340) (by decide +kernel), List.mem_of_getElem? (i := 341) (by decide +kernel)⟩
theorem lw_p1 : lw_okq (⟨"SeaWatches", "watchAt", "(I)LSeaWatches$Watch;"⟩, 14) := ⟨⟨by decide +kernel, by decide +kernel⟩, List.mem_of_getElem? (i := 17) (by decide +kernel), List.mem_of_getElem? (i := 370) (by decide +kernel), List.mem_of_getElem? (i := 371) (by decide +kernel)⟩
theorem lw_p2 : lw_okq (⟨"SeaWatches", "isPast", "(I)Z"⟩, 14) := ⟨⟨by decide +kernel, by decide +kernel⟩, List.mem_of_getElem? (i := 17) (by decide +kernel), List.mem_of_getElem? (i := 392) (by decide +kernel), List.mem_of_getElem? (i := 393) (by decide +kernel)⟩
theorem lw_p3 : lw_okq (⟨"SeaWatches", "lackAt", "(I)I"⟩, 14) := ⟨⟨by decide +kernel, by decide +kernel⟩, List.mem_of_getElem? (i := 17) (by decide +kernel), List.mem_of_getElem? (i := 397) (by decide +kernel), List.mem_of_getElem? (i := 398) (by decide +kernel)⟩
theorem lw_p4 : lw_okq (⟨"SeaWatches", "markOn", "(III)I"⟩, 14) := ⟨⟨by decide +kernel, by decide +kernel⟩, List.mem_of_getElem? (i := 17) (by decide +kernel), List.mem_of_getElem? (i := 448) (by decide +kernel), List.mem_of_getElem? (i := 449) (by decide +kernel)⟩
theorem lw_p5 : lw_okq (⟨"SeaWatches", "refusalOfStretch", "(III)I"⟩, 14) := ⟨⟨by decide +kernel, by decide +kernel⟩, List.mem_of_getElem? (i := 17) (by decide +kernel), List.mem_of_getElem? (i := 487) (by decide +kernel), List.mem_of_getElem? (i := 488) (by decide +kernel)⟩
theorem lw_p6 : lw_okq (⟨"SeaWatches", "fitLaw", "(III)V"⟩, 14) := ⟨⟨by decide +kernel, by decide +kernel⟩, List.mem_of_getElem? (i := 17) (by decide +kernel), List.mem_of_getElem? (i := 491) (by decide +kernel), List.mem_of_getElem? (i := 492) (by decide +kernel)⟩
theorem lw_p7 : lw_okq (⟨"SeaWatches", "warmthFor", "(II)I"⟩, 14) := ⟨⟨by decide +kernel, by decide +kernel⟩, List.mem_of_getElem? (i := 17) (by decide +kernel), List.mem_of_getElem? (i := 506) (by decide +kernel), List.mem_of_getElem? (i := 507) (by decide +kernel)⟩
theorem lw_p8 : lw_okq (⟨"SeaWatches$Fit", "setLaw", "(IJJJ)V"⟩, 15) := ⟨⟨by decide +kernel, by decide +kernel⟩, List.mem_of_getElem? (i := 78) (by decide +kernel), List.mem_of_getElem? (i := 518) (by decide +kernel), List.mem_of_getElem? (i := 519) (by decide +kernel)⟩
theorem lw_p9 : lw_okq (⟨"SeaWatches$Fit", "addProduct", "(JJ)V"⟩, 15) := ⟨⟨by decide +kernel, by decide +kernel⟩, List.mem_of_getElem? (i := 78) (by decide +kernel), List.mem_of_getElem? (i := 543) (by decide +kernel), List.mem_of_getElem? (i := 544) (by decide +kernel)⟩
theorem lw_p10 : lw_okq (⟨"SeaWatches$Rates", "middleOne", "()I"⟩, 4) := ⟨⟨by decide +kernel, by decide +kernel⟩, List.mem_of_getElem? (i := 56) (by decide +kernel), List.mem_of_getElem? (i := 567) (by decide +kernel), List.mem_of_getElem? (i := 568) (by decide +kernel)⟩
theorem lw_p11 : lw_okq (⟨"SeaWatches$Tape", "goOn", "()V"⟩, 8) := ⟨⟨by decide +kernel, by decide +kernel⟩, List.mem_of_getElem? (i := 130) (by decide +kernel), List.mem_of_getElem? (i := 592) (by decide +kernel), List.mem_of_getElem? (i := 593) (by decide +kernel)⟩
theorem lw_p12 : lw_okq (⟨"SeaWatches$Tape", "takeLetters", "()V"⟩, 8) := ⟨⟨by decide +kernel, by decide +kernel⟩, List.mem_of_getElem? (i := 130) (by decide +kernel), List.mem_of_getElem? (i := 599) (by decide +kernel), List.mem_of_getElem? (i := 600) (by decide +kernel)⟩
theorem lw_p13 : lw_okq (⟨"SeaWatches$Tape", "placeAmongWords", "()I"⟩, 8) := ⟨⟨by decide +kernel, by decide +kernel⟩, List.mem_of_getElem? (i := 130) (by decide +kernel), List.mem_of_getElem? (i := 603) (by decide +kernel), List.mem_of_getElem? (i := 604) (by decide +kernel)⟩
theorem lw_p14 : lw_okq (⟨"SeaWatches$Tape", "isOnTape", "(II)Z"⟩, 8) := ⟨⟨by decide +kernel, by decide +kernel⟩, List.mem_of_getElem? (i := 130) (by decide +kernel), List.mem_of_getElem? (i := 655) (by decide +kernel), List.mem_of_getElem? (i := 656) (by decide +kernel)⟩
theorem lw_p15 : lw_okq (⟨"SeaWatches$Tape", "takeDigits", "()V"⟩, 8) := ⟨⟨by decide +kernel, by decide +kernel⟩, List.mem_of_getElem? (i := 130) (by decide +kernel), List.mem_of_getElem? (i := 662) (by decide +kernel), List.mem_of_getElem? (i := 663) (by decide +kernel)⟩
def lw_privs_1 : List (MethodName × Nat) := [(⟨"SeaWatches", "bringWatch", "(I)V"⟩, 14), (⟨"SeaWatches", "watchAt", "(I)LSeaWatches$Watch;"⟩, 14), (⟨"SeaWatches", "isPast", "(I)Z"⟩, 14), (⟨"SeaWatches", "lackAt", "(I)I"⟩, 14), (⟨"SeaWatches", "markOn", "(III)I"⟩, 14), (⟨"SeaWatches", "refusalOfStretch", "(III)I"⟩, 14), (⟨"SeaWatches", "fitLaw", "(III)V"⟩, 14), (⟨"SeaWatches", "warmthFor", "(II)I"⟩, 14), (⟨"SeaWatches$Fit", "setLaw", "(IJJJ)V"⟩, 15), (⟨"SeaWatches$Fit", "addProduct", "(JJ)V"⟩, 15), (⟨"SeaWatches$Rates", "middleOne", "()I"⟩, 4), (⟨"SeaWatches$Tape", "goOn", "()V"⟩, 8), (⟨"SeaWatches$Tape", "takeLetters", "()V"⟩, 8), (⟨"SeaWatches$Tape", "placeAmongWords", "()I"⟩, 8), (⟨"SeaWatches$Tape", "isOnTape", "(II)Z"⟩, 8), (⟨"SeaWatches$Tape", "takeDigits", "()V"⟩, 8)]
theorem lw_r1 : ∀ q ∈ lw_privs_1, lw_okq q := List.forall_mem_cons.mpr ⟨lw_p0, List.forall_mem_cons.mpr ⟨lw_p1, List.forall_mem_cons.mpr ⟨lw_p2, List.forall_mem_cons.mpr ⟨lw_p3, List.forall_mem_cons.mpr ⟨lw_p4, List.forall_mem_cons.mpr ⟨lw_p5, List.forall_mem_cons.mpr ⟨lw_p6, List.forall_mem_cons.mpr ⟨lw_p7, List.forall_mem_cons.mpr ⟨lw_p8, List.forall_mem_cons.mpr ⟨lw_p9, List.forall_mem_cons.mpr ⟨lw_p10, List.forall_mem_cons.mpr ⟨lw_p11, List.forall_mem_cons.mpr ⟨lw_p12, List.forall_mem_cons.mpr ⟨lw_p13, List.forall_mem_cons.mpr ⟨lw_p14, List.forall_mem_cons.mpr ⟨lw_p15, fun _ h => absurd h List.not_mem_nil⟩⟩⟩⟩⟩⟩⟩⟩⟩⟩⟩⟩⟩⟩⟩⟩
theorem lw_p16 : lw_okq (⟨"SeaWatches$Tape", "readEither", "(I)Z"⟩, 8) := ⟨⟨by decide +kernel, by decide +kernel⟩, List.mem_of_getElem? (i := 130) (by decide +kernel), List.mem_of_getElem? (i := 669) (by decide +kernel), List.mem_of_getElem? (i := 670) (by decide +kernel)⟩
theorem lw_p17 : lw_okq (⟨"SeaWatches$Tape", "readBoth", "(I)Z"⟩, 8) := ⟨⟨by decide +kernel, by decide +kernel⟩, List.mem_of_getElem? (i := 130) (by decide +kernel), List.mem_of_getElem? (i := 673) (by decide +kernel), List.mem_of_getElem? (i := 674) (by decide +kernel)⟩
theorem lw_p18 : lw_okq (⟨"SeaWatches$Tape", "readNegation", "(I)Z"⟩, 8) := ⟨⟨by decide +kernel, by decide +kernel⟩, List.mem_of_getElem? (i := 130) (by decide +kernel), List.mem_of_getElem? (i := 677) (by decide +kernel), List.mem_of_getElem? (i := 678) (by decide +kernel)⟩
theorem lw_p19 : lw_okq (⟨"SeaWatches$Tape", "readComparison", "(I)Z"⟩, 8) := ⟨⟨by decide +kernel, by decide +kernel⟩, List.mem_of_getElem? (i := 130) (by decide +kernel), List.mem_of_getElem? (i := 681) (by decide +kernel), List.mem_of_getElem? (i := 682) (by decide +kernel)⟩
theorem lw_p20 : lw_okq (⟨"SeaWatches$Tape", "readSum", "(I)Z"⟩, 8) := ⟨⟨by decide +kernel, by decide +kernel⟩, List.mem_of_getElem? (i := 130) (by decide +kernel), List.mem_of_getElem? (i := 685) (by decide +kernel), List.mem_of_getElem? (i := 686) (by decide +kernel)⟩
theorem lw_p21 : lw_okq (⟨"SeaWatches$Tape", "readProduct", "(I)Z"⟩, 8) := ⟨⟨by decide +kernel, by decide +kernel⟩, List.mem_of_getElem? (i := 130) (by decide +kernel), List.mem_of_getElem? (i := 689) (by decide +kernel), List.mem_of_getElem? (i := 690) (by decide +kernel)⟩
theorem lw_p22 : lw_okq (⟨"SeaWatches$Tape", "readOperand", "(I)Z"⟩, 8) := ⟨⟨by decide +kernel, by decide +kernel⟩, List.mem_of_getElem? (i := 130) (by decide +kernel), List.mem_of_getElem? (i := 693) (by decide +kernel), List.mem_of_getElem? (i := 694) (by decide +kernel)⟩
theorem lw_p23 : lw_okq (⟨"SeaWatches$Tape", "readInBrackets", "(I)Z"⟩, 8) := ⟨⟨by decide +kernel, by decide +kernel⟩, List.mem_of_getElem? (i := 130) (by decide +kernel), List.mem_of_getElem? (i := 701) (by decide +kernel), List.mem_of_getElem? (i := 702) (by decide +kernel)⟩
theorem lw_p24 : lw_okq (⟨"SeaWatches", "hasTrial", "(III)Z"⟩, 14) := ⟨⟨by decide +kernel, by decide +kernel⟩, List.mem_of_getElem? (i := 17) (by decide +kernel), List.mem_of_getElem? (i := 713) (by decide +kernel), List.mem_of_getElem? (i := 714) (by decide +kernel)⟩
theorem lw_p25 : lw_okq (⟨"SeaWatches", "workOutTrial", "(II)I"⟩, 14) := ⟨⟨by decide +kernel, by decide +kernel⟩, List.mem_of_getElem? (i := 17) (by decide +kernel), List.mem_of_getElem? (i := 717) (by decide +kernel), List.mem_of_getElem? (i := 718) (by decide +kernel)⟩
theorem lw_p26 : lw_okq (⟨"SeaWatches", "warmthSpan", "(I)I"⟩, 14) := ⟨⟨by decide +kernel, by decide +kernel⟩, List.mem_of_getElem? (i := 17) (by decide +kernel), List.mem_of_getElem? (i := 747) (by decide +kernel), List.mem_of_getElem? (i := 748) (by decide +kernel)⟩
theorem lw_p27 : lw_okq (⟨"SeaWatches", "firstLack", "(III)I"⟩, 14) := ⟨⟨by decide +kernel, by decide +kernel⟩, List.mem_of_getElem? (i := 17) (by decide +kernel), List.mem_of_getElem? (i := 777) (by decide +kernel), List.mem_of_getElem? (i := 778) (by decide +kernel)⟩
theorem lw_p28 : lw_okq (⟨"SeaWatches", "isFitToSail", "(I)Z"⟩, 14) := ⟨⟨by decide +kernel, by decide +kernel⟩, List.mem_of_getElem? (i := 17) (by decide +kernel), List.mem_of_getElem? (i := 781) (by decide +kernel), List.mem_of_getElem? (i := 782) (by decide +kernel)⟩
theorem lw_p29 : lw_okq (⟨"SeaWatches", "gatherBeforeSailing", "(LSeaWatches$Watch;)V"⟩, 14) := ⟨⟨by decide +kernel, by decide +kernel⟩, List.mem_of_getElem? (i := 17) (by decide +kernel), List.mem_of_getElem? (i := 785) (by decide +kernel), List.mem_of_getElem? (i := 786) (by decide +kernel)⟩
theorem lw_p30 : lw_okq (⟨"SeaWatches", "board", "(III)V"⟩, 14) := ⟨⟨by decide +kernel, by decide +kernel⟩, List.mem_of_getElem? (i := 17) (by decide +kernel), List.mem_of_getElem? (i := 793) (by decide +kernel), List.mem_of_getElem? (i := 794) (by decide +kernel)⟩
theorem lw_p31 : lw_okq (⟨"SeaWatches$Ship", "isOf", "(II)Z"⟩, 11) := ⟨⟨by decide +kernel, by decide +kernel⟩, List.mem_of_getElem? (i := 223) (by decide +kernel), List.mem_of_getElem? (i := 834) (by decide +kernel), List.mem_of_getElem? (i := 835) (by decide +kernel)⟩
def lw_privs_2 : List (MethodName × Nat) := [(⟨"SeaWatches$Tape", "readEither", "(I)Z"⟩, 8), (⟨"SeaWatches$Tape", "readBoth", "(I)Z"⟩, 8), (⟨"SeaWatches$Tape", "readNegation", "(I)Z"⟩, 8), (⟨"SeaWatches$Tape", "readComparison", "(I)Z"⟩, 8), (⟨"SeaWatches$Tape", "readSum", "(I)Z"⟩, 8), (⟨"SeaWatches$Tape", "readProduct", "(I)Z"⟩, 8), (⟨"SeaWatches$Tape", "readOperand", "(I)Z"⟩, 8), (⟨"SeaWatches$Tape", "readInBrackets", "(I)Z"⟩, 8), (⟨"SeaWatches", "hasTrial", "(III)Z"⟩, 14), (⟨"SeaWatches", "workOutTrial", "(II)I"⟩, 14), (⟨"SeaWatches", "warmthSpan", "(I)I"⟩, 14), (⟨"SeaWatches", "firstLack", "(III)I"⟩, 14), (⟨"SeaWatches", "isFitToSail", "(I)Z"⟩, 14), (⟨"SeaWatches", "gatherBeforeSailing", "(LSeaWatches$Watch;)V"⟩, 14), (⟨"SeaWatches", "board", "(III)V"⟩, 14), (⟨"SeaWatches$Ship", "isOf", "(II)Z"⟩, 11)]
theorem lw_r2 : ∀ q ∈ lw_privs_2, lw_okq q := List.forall_mem_cons.mpr ⟨lw_p16, List.forall_mem_cons.mpr ⟨lw_p17, List.forall_mem_cons.mpr ⟨lw_p18, List.forall_mem_cons.mpr ⟨lw_p19, List.forall_mem_cons.mpr ⟨lw_p20, List.forall_mem_cons.mpr ⟨lw_p21, List.forall_mem_cons.mpr ⟨lw_p22, List.forall_mem_cons.mpr ⟨lw_p23, List.forall_mem_cons.mpr ⟨lw_p24, List.forall_mem_cons.mpr ⟨lw_p25, List.forall_mem_cons.mpr ⟨lw_p26, List.forall_mem_cons.mpr ⟨lw_p27, List.forall_mem_cons.mpr ⟨lw_p28, List.forall_mem_cons.mpr ⟨lw_p29, List.forall_mem_cons.mpr ⟨lw_p30, List.forall_mem_cons.mpr ⟨lw_p31, fun _ h => absurd h List.not_mem_nil⟩⟩⟩⟩⟩⟩⟩⟩⟩⟩⟩⟩⟩⟩⟩⟩
theorem lw_p32 : lw_okq (⟨"SeaWatches", "droppedOf", "(LSeaWatches$Ship;I)I"⟩, 14) := ⟨⟨by decide +kernel, by decide +kernel⟩, List.mem_of_getElem? (i := 17) (by decide +kernel), List.mem_of_getElem? (i := 848) (by decide +kernel), List.mem_of_getElem? (i := 849) (by decide +kernel)⟩
theorem lw_p33 : lw_okq (⟨"SeaWatches", "unload", "(LSeaWatches$Ship;II)V"⟩, 14) := ⟨⟨by decide +kernel, by decide +kernel⟩, List.mem_of_getElem? (i := 17) (by decide +kernel), List.mem_of_getElem? (i := 879) (by decide +kernel), List.mem_of_getElem? (i := 880) (by decide +kernel)⟩
theorem lw_p34 : lw_okq (⟨"SeaWatches$Dealing", "tryFrom", "(II)V"⟩, 9) := ⟨⟨by decide +kernel, by decide +kernel⟩, List.mem_of_getElem? (i := 185) (by decide +kernel), List.mem_of_getElem? (i := 906) (by decide +kernel), List.mem_of_getElem? (i := 907) (by decide +kernel)⟩
theorem lw_p35 : lw_okq (⟨"SeaWatches$Dealing", "keepIfBetter", "()V"⟩, 9) := ⟨⟨by decide +kernel, by decide +kernel⟩, List.mem_of_getElem? (i := 185) (by decide +kernel), List.mem_of_getElem? (i := 910) (by decide +kernel), List.mem_of_getElem? (i := 911) (by decide +kernel)⟩
theorem lw_p36 : lw_okq (⟨"SeaWatches$Dealing", "secondLeast", "(I)I"⟩, 9) := ⟨⟨by decide +kernel, by decide +kernel⟩, List.mem_of_getElem? (i := 185) (by decide +kernel), List.mem_of_getElem? (i := 914) (by decide +kernel), List.mem_of_getElem? (i := 915) (by decide +kernel)⟩
theorem lw_p37 : lw_okq (⟨"SeaWatches", "placesWith", "(I)I"⟩, 14) := ⟨⟨by decide +kernel, by decide +kernel⟩, List.mem_of_getElem? (i := 17) (by decide +kernel), List.mem_of_getElem? (i := 946) (by decide +kernel), List.mem_of_getElem? (i := 947) (by decide +kernel)⟩
theorem lw_p38 : lw_okq (⟨"SeaWatches", "shipsAtSea", "()I"⟩, 14) := ⟨⟨by decide +kernel, by decide +kernel⟩, List.mem_of_getElem? (i := 17) (by decide +kernel), List.mem_of_getElem? (i := 950) (by decide +kernel), List.mem_of_getElem? (i := 951) (by decide +kernel)⟩
theorem lw_p39 : lw_okq (⟨"SeaWatchesModel", "isWatch", "(I)Z"⟩, 68) := ⟨⟨by decide +kernel, by decide +kernel⟩, List.mem_of_getElem? (i := 954) (by decide +kernel), List.mem_of_getElem? (i := 1190) (by decide +kernel), List.mem_of_getElem? (i := 1191) (by decide +kernel)⟩
theorem lw_p40 : lw_okq (⟨"SeaWatchesModel", "holderNow", "(I)I"⟩, 68) := ⟨⟨by decide +kernel, by decide +kernel⟩, List.mem_of_getElem? (i := 954) (by decide +kernel), List.mem_of_getElem? (i := 1194) (by decide +kernel), List.mem_of_getElem? (i := 1195) (by decide +kernel)⟩
theorem lw_p41 : lw_okq (⟨"SeaWatchesModel", "watchAt", "(I)I"⟩, 68) := ⟨⟨by decide +kernel, by decide +kernel⟩, List.mem_of_getElem? (i := 954) (by decide +kernel), List.mem_of_getElem? (i := 1213) (by decide +kernel), List.mem_of_getElem? (i := 1214) (by decide +kernel)⟩
theorem lw_p42 : lw_okq (⟨"SeaWatchesModel", "errorOf", "(III)I"⟩, 68) := ⟨⟨by decide +kernel, by decide +kernel⟩, List.mem_of_getElem? (i := 954) (by decide +kernel), List.mem_of_getElem? (i := 1224) (by decide +kernel), List.mem_of_getElem? (i := 1225) (by decide +kernel)⟩
theorem lw_p43 : lw_okq (⟨"SeaWatchesModel", "rateOf", "(III)I"⟩, 68) := ⟨⟨by decide +kernel, by decide +kernel⟩, List.mem_of_getElem? (i := 954) (by decide +kernel), List.mem_of_getElem? (i := 1232) (by decide +kernel), List.mem_of_getElem? (i := 1233) (by decide +kernel)⟩
theorem lw_p44 : lw_okq (⟨"SeaWatchesModel", "ageOf", "(II)I"⟩, 68) := ⟨⟨by decide +kernel, by decide +kernel⟩, List.mem_of_getElem? (i := 954) (by decide +kernel), List.mem_of_getElem? (i := 1251) (by decide +kernel), List.mem_of_getElem? (i := 1252) (by decide +kernel)⟩
theorem lw_p45 : lw_okq (⟨"SeaWatchesModel", "asked", "(III)I"⟩, 68) := ⟨⟨by decide +kernel, by decide +kernel⟩, List.mem_of_getElem? (i := 954) (by decide +kernel), List.mem_of_getElem? (i := 1270) (by decide +kernel), List.mem_of_getElem? (i := 1271) (by decide +kernel)⟩
theorem lw_p46 : lw_okq (⟨"SeaWatchesModel", "sumUp", "(III)V"⟩, 68) := ⟨⟨by decide +kernel, by decide +kernel⟩, List.mem_of_getElem? (i := 954) (by decide +kernel), List.mem_of_getElem? (i := 1274) (by decide +kernel), List.mem_of_getElem? (i := 1275) (by decide +kernel)⟩
theorem lw_p47 : lw_okq (⟨"SeaWatchesModel", "warmthOf", "(II)I"⟩, 68) := ⟨⟨by decide +kernel, by decide +kernel⟩, List.mem_of_getElem? (i := 954) (by decide +kernel), List.mem_of_getElem? (i := 1278) (by decide +kernel), List.mem_of_getElem? (i := 1279) (by decide +kernel)⟩
def lw_privs_3 : List (MethodName × Nat) := [(⟨"SeaWatches", "droppedOf", "(LSeaWatches$Ship;I)I"⟩, 14), (⟨"SeaWatches", "unload", "(LSeaWatches$Ship;II)V"⟩, 14), (⟨"SeaWatches$Dealing", "tryFrom", "(II)V"⟩, 9), (⟨"SeaWatches$Dealing", "keepIfBetter", "()V"⟩, 9), (⟨"SeaWatches$Dealing", "secondLeast", "(I)I"⟩, 9), (⟨"SeaWatches", "placesWith", "(I)I"⟩, 14), (⟨"SeaWatches", "shipsAtSea", "()I"⟩, 14), (⟨"SeaWatchesModel", "isWatch", "(I)Z"⟩, 68), (⟨"SeaWatchesModel", "holderNow", "(I)I"⟩, 68), (⟨"SeaWatchesModel", "watchAt", "(I)I"⟩, 68), (⟨"SeaWatchesModel", "errorOf", "(III)I"⟩, 68), (⟨"SeaWatchesModel", "rateOf", "(III)I"⟩, 68), (⟨"SeaWatchesModel", "ageOf", "(II)I"⟩, 68), (⟨"SeaWatchesModel", "asked", "(III)I"⟩, 68), (⟨"SeaWatchesModel", "sumUp", "(III)V"⟩, 68), (⟨"SeaWatchesModel", "warmthOf", "(II)I"⟩, 68)]
theorem lw_r3 : ∀ q ∈ lw_privs_3, lw_okq q := List.forall_mem_cons.mpr ⟨lw_p32, List.forall_mem_cons.mpr ⟨lw_p33, List.forall_mem_cons.mpr ⟨lw_p34, List.forall_mem_cons.mpr ⟨lw_p35, List.forall_mem_cons.mpr ⟨lw_p36, List.forall_mem_cons.mpr ⟨lw_p37, List.forall_mem_cons.mpr ⟨lw_p38, List.forall_mem_cons.mpr ⟨lw_p39, List.forall_mem_cons.mpr ⟨lw_p40, List.forall_mem_cons.mpr ⟨lw_p41, List.forall_mem_cons.mpr ⟨lw_p42, List.forall_mem_cons.mpr ⟨lw_p43, List.forall_mem_cons.mpr ⟨lw_p44, List.forall_mem_cons.mpr ⟨lw_p45, List.forall_mem_cons.mpr ⟨lw_p46, List.forall_mem_cons.mpr ⟨lw_p47, fun _ h => absurd h List.not_mem_nil⟩⟩⟩⟩⟩⟩⟩⟩⟩⟩⟩⟩⟩⟩⟩⟩
theorem lw_p48 : lw_okq (⟨"SeaWatchesModel", "termsNow", "()I"⟩, 68) := ⟨⟨by decide +kernel, by decide +kernel⟩, List.mem_of_getElem? (i := 954) (by decide +kernel), List.mem_of_getElem? (i := 1288) (by decide +kernel), List.mem_of_getElem? (i := 1289) (by decide +kernel)⟩
theorem lw_p49 : lw_okq (⟨"SeaWatchesModel", "three", "()J"⟩, 68) := ⟨⟨by decide +kernel, by decide +kernel⟩, List.mem_of_getElem? (i := 954) (by decide +kernel), List.mem_of_getElem? (i := 1292) (by decide +kernel), List.mem_of_getElem? (i := 1293) (by decide +kernel)⟩
theorem lw_p50 : lw_okq (⟨"SeaWatchesModel", "two", "(JJ)J"⟩, 68) := ⟨⟨by decide +kernel, by decide +kernel⟩, List.mem_of_getElem? (i := 954) (by decide +kernel), List.mem_of_getElem? (i := 1296) (by decide +kernel), List.mem_of_getElem? (i := 1297) (by decide +kernel)⟩
theorem lw_p51 : lw_okq (⟨"SeaWatchesModel", "byThree", "(JJ)V"⟩, 68) := ⟨⟨by decide +kernel, by decide +kernel⟩, List.mem_of_getElem? (i := 954) (by decide +kernel), List.mem_of_getElem? (i := 1304) (by decide +kernel), List.mem_of_getElem? (i := 1305) (by decide +kernel)⟩
theorem lw_p52 : lw_okq (⟨"SeaWatchesModel", "byTwo", "(JJJJ)V"⟩, 68) := ⟨⟨by decide +kernel, by decide +kernel⟩, List.mem_of_getElem? (i := 954) (by decide +kernel), List.mem_of_getElem? (i := 1308) (by decide +kernel), List.mem_of_getElem? (i := 1309) (by decide +kernel)⟩
theorem lw_p53 : lw_okq (⟨"SeaWatchesModel", "findRates", "(III)V"⟩, 68) := ⟨⟨by decide +kernel, by decide +kernel⟩, List.mem_of_getElem? (i := 954) (by decide +kernel), List.mem_of_getElem? (i := 1323) (by decide +kernel), List.mem_of_getElem? (i := 1324) (by decide +kernel)⟩
theorem lw_p54 : lw_okq (⟨"SeaWatchesModel", "readRule", "(I)I"⟩, 68) := ⟨⟨by decide +kernel, by decide +kernel⟩, List.mem_of_getElem? (i := 954) (by decide +kernel), List.mem_of_getElem? (i := 1335) (by decide +kernel), List.mem_of_getElem? (i := 1336) (by decide +kernel)⟩
theorem lw_p55 : lw_okq (⟨"SeaWatchesModel", "advance", "(I)V"⟩, 68) := ⟨⟨by decide +kernel, by decide +kernel⟩, List.mem_of_getElem? (i := 954) (by decide +kernel), List.mem_of_getElem? (i := 1339) (by decide +kernel), List.mem_of_getElem? (i := 1340) (by decide +kernel)⟩
theorem lw_p56 : lw_okq (⟨"SeaWatchesModel", "opened", "()I"⟩, 68) := ⟨⟨by decide +kernel, by decide +kernel⟩, List.mem_of_getElem? (i := 954) (by decide +kernel), List.mem_of_getElem? (i := 1373) (by decide +kernel), List.mem_of_getElem? (i := 1374) (by decide +kernel)⟩
theorem lw_p57 : lw_okq (⟨"SeaWatchesModel", "lay", "(II)V"⟩, 68) := ⟨⟨by decide +kernel, by decide +kernel⟩, List.mem_of_getElem? (i := 954) (by decide +kernel), List.mem_of_getElem? (i := 1377) (by decide +kernel), List.mem_of_getElem? (i := 1378) (by decide +kernel)⟩
theorem lw_p58 : lw_okq (⟨"SeaWatchesModel", "done", "(I)V"⟩, 68) := ⟨⟨by decide +kernel, by decide +kernel⟩, List.mem_of_getElem? (i := 954) (by decide +kernel), List.mem_of_getElem? (i := 1381) (by decide +kernel), List.mem_of_getElem? (i := 1382) (by decide +kernel)⟩
theorem lw_p59 : lw_okq (⟨"SeaWatchesModel", "trialOf", "(III)I"⟩, 68) := ⟨⟨by decide +kernel, by decide +kernel⟩, List.mem_of_getElem? (i := 954) (by decide +kernel), List.mem_of_getElem? (i := 1392) (by decide +kernel), List.mem_of_getElem? (i := 1393) (by decide +kernel)⟩
theorem lw_p60 : lw_okq (⟨"SeaWatchesModel", "says", "(I)I"⟩, 68) := ⟨⟨by decide +kernel, by decide +kernel⟩, List.mem_of_getElem? (i := 954) (by decide +kernel), List.mem_of_getElem? (i := 1396) (by decide +kernel), List.mem_of_getElem? (i := 1397) (by decide +kernel)⟩
theorem lw_p61 : lw_okq (⟨"SeaWatchesModel", "hasTrial", "(III)Z"⟩, 68) := ⟨⟨by decide +kernel, by decide +kernel⟩, List.mem_of_getElem? (i := 954) (by decide +kernel), List.mem_of_getElem? (i := 1407) (by decide +kernel), List.mem_of_getElem? (i := 1408) (by decide +kernel)⟩
theorem lw_p62 : lw_okq (⟨"SeaWatchesModel", "maySail", "(I)Z"⟩, 68) := ⟨⟨by decide +kernel, by decide +kernel⟩, List.mem_of_getElem? (i := 954) (by decide +kernel), List.mem_of_getElem? (i := 1418) (by decide +kernel), List.mem_of_getElem? (i := 1419) (by decide +kernel)⟩
theorem lw_p63 : lw_okq (⟨"SeaWatchesModel", "goesTo", "(II)V"⟩, 68) := ⟨⟨by decide +kernel, by decide +kernel⟩, List.mem_of_getElem? (i := 954) (by decide +kernel), List.mem_of_getElem? (i := 1422) (by decide +kernel), List.mem_of_getElem? (i := 1423) (by decide +kernel)⟩
def lw_privs_4 : List (MethodName × Nat) := [(⟨"SeaWatchesModel", "termsNow", "()I"⟩, 68), (⟨"SeaWatchesModel", "three", "()J"⟩, 68), (⟨"SeaWatchesModel", "two", "(JJ)J"⟩, 68), (⟨"SeaWatchesModel", "byThree", "(JJ)V"⟩, 68), (⟨"SeaWatchesModel", "byTwo", "(JJJJ)V"⟩, 68), (⟨"SeaWatchesModel", "findRates", "(III)V"⟩, 68), (⟨"SeaWatchesModel", "readRule", "(I)I"⟩, 68), (⟨"SeaWatchesModel", "advance", "(I)V"⟩, 68), (⟨"SeaWatchesModel", "opened", "()I"⟩, 68), (⟨"SeaWatchesModel", "lay", "(II)V"⟩, 68), (⟨"SeaWatchesModel", "done", "(I)V"⟩, 68), (⟨"SeaWatchesModel", "trialOf", "(III)I"⟩, 68), (⟨"SeaWatchesModel", "says", "(I)I"⟩, 68), (⟨"SeaWatchesModel", "hasTrial", "(III)Z"⟩, 68), (⟨"SeaWatchesModel", "maySail", "(I)Z"⟩, 68), (⟨"SeaWatchesModel", "goesTo", "(II)V"⟩, 68)]
theorem lw_r4 : ∀ q ∈ lw_privs_4, lw_okq q := List.forall_mem_cons.mpr ⟨lw_p48, List.forall_mem_cons.mpr ⟨lw_p49, List.forall_mem_cons.mpr ⟨lw_p50, List.forall_mem_cons.mpr ⟨lw_p51, List.forall_mem_cons.mpr ⟨lw_p52, List.forall_mem_cons.mpr ⟨lw_p53, List.forall_mem_cons.mpr ⟨lw_p54, List.forall_mem_cons.mpr ⟨lw_p55, List.forall_mem_cons.mpr ⟨lw_p56, List.forall_mem_cons.mpr ⟨lw_p57, List.forall_mem_cons.mpr ⟨lw_p58, List.forall_mem_cons.mpr ⟨lw_p59, List.forall_mem_cons.mpr ⟨lw_p60, List.forall_mem_cons.mpr ⟨lw_p61, List.forall_mem_cons.mpr ⟨lw_p62, List.forall_mem_cons.mpr ⟨lw_p63, fun _ h => absurd h List.not_mem_nil⟩⟩⟩⟩⟩⟩⟩⟩⟩⟩⟩⟩⟩⟩⟩⟩
theorem lw_p64 : lw_okq (⟨"SeaWatchesModel", "work", "(II)I"⟩, 68) := ⟨⟨by decide +kernel, by decide +kernel⟩, List.mem_of_getElem? (i := 954) (by decide +kernel), List.mem_of_getElem? (i := 1443) (by decide +kernel), List.mem_of_getElem? (i := 1444) (by decide +kernel)⟩
theorem lw_p65 : lw_okq (⟨"SeaWatchesModel", "isWay", "(I)Z"⟩, 68) := ⟨⟨by decide +kernel, by decide +kernel⟩, List.mem_of_getElem? (i := 954) (by decide +kernel), List.mem_of_getElem? (i := 1465) (by decide +kernel), List.mem_of_getElem? (i := 1466) (by decide +kernel)⟩
theorem lw_p66 : lw_okq (⟨"SeaWatchesModel", "secondOf", "(I)I"⟩, 68) := ⟨⟨by decide +kernel, by decide +kernel⟩, List.mem_of_getElem? (i := 954) (by decide +kernel), List.mem_of_getElem? (i := 1469) (by decide +kernel), List.mem_of_getElem? (i := 1470) (by decide +kernel)⟩
def lw_privs_5 : List (MethodName × Nat) := [(⟨"SeaWatchesModel", "work", "(II)I"⟩, 68), (⟨"SeaWatchesModel", "isWay", "(I)Z"⟩, 68), (⟨"SeaWatchesModel", "secondOf", "(I)I"⟩, 68)]
theorem lw_r5 : ∀ q ∈ lw_privs_5, lw_okq q := List.forall_mem_cons.mpr ⟨lw_p64, List.forall_mem_cons.mpr ⟨lw_p65, List.forall_mem_cons.mpr ⟨lw_p66, fun _ h => absurd h List.not_mem_nil⟩⟩⟩
def lw_privs : List (MethodName × Nat) := lw_privs_1 ++ (lw_privs_2 ++ (lw_privs_3 ++ (lw_privs_4 ++ (lw_privs_5))))
def lw_tbl : List Cond := k2_sels lw_privs ++ tables_1
theorem lw_privs_ok : ∀ q ∈ lw_privs, lw_okq q := by
  show ∀ q ∈ lw_privs_1 ++ (lw_privs_2 ++ (lw_privs_3 ++ (lw_privs_4 ++ (lw_privs_5)))), lw_okq q
  exact List.forall_mem_append.mpr ⟨lw_r1, List.forall_mem_append.mpr ⟨lw_r2, List.forall_mem_append.mpr ⟨lw_r3, List.forall_mem_append.mpr ⟨lw_r4, lw_r5⟩⟩⟩⟩
end
section
/-! THE CLAIM OUT OF ONE WALK OF THE LAW'S BODY. Your part is whole_start (and what it stands on); all else here is the same for every law, but numbers. -/
def R_law : String := "SeaWatchesLaw"
def lw_P (b : Addr) (xs : List Int32) (args : Array Value) (s : State) : Prop := args = #[.ref b] ∧ s.IntsAt b xs ∧ xs.length ≤ 6 ∧ (Jvm.Cond.and given_1 narrow_1).before args s = true
def lw_Q (_ : Array Value) (s : State) (o : Outcome) (t : State) : Prop := o = .returned (some (.int 1)) ∧ Framed s o t [] 600000 7302250
def lw_Z (below : List Frame) (a : Array Value) (s : State) : State → Prop := fun t => ∃ o, t.status = .running ∧ Ended t below o ∧ lw_Q a s o t
/-- the law's own end, with 1 on the stack, nothing written that was there before, its room as the claim has it -/
theorem lw_ret {p : Program} {l : Launch} {e : Env} {s : State} {m : MethodId} {below : List Frame} {meth : Method} {c : Code} {b : Nat} (hx : p.tables.exec = Jvm.exec) (hb : c.code = code) (hr : meth.sig.returnType = ret) (hlocks : meth.locks = false) {pc : Nat} {H : Heap} {ls : Array Slot} (hdg : decode code pc = .ok (.ireturn, 1)) : W p l e room_1 s m #[Value.ref b] below meth c H [] 600000 7302250 (lw_Z below #[Value.ref b] s) (F0 m pc ls [.int 1]) := by
  intro T hT X
  obtain ⟨fs, hret, hrun, hended, hW, hframe⟩ := X.leave (v := some (.int 1)) (hlocks := hlocks) (fun h => by rw [hr] at h; cases h)
  have hmeth' : T.vm.method? m = some meth := X.method'
  refine ⟨T.setFrames fs, ?_, .returned (some (.int 1)), hrun, hended, rfl, ⟨_, rfl⟩, hW, hframe⟩
  jvm_step X.here [X.here.top, hx, hb, hdg, hmeth', hr, ret, narrow_b1]
  (try refine ⟨rfl, ?_⟩); (try refine ⟨rfl, ?_⟩)
  first | (intro acts; rw [hret _ acts rfl rfl rfl]) | rw [hret _ _ rfl rfl rfl]
  exact Steps.refl _
/-- what holds at the law's entry: the machine, the code, the tables' words (any of lw_tbl by 'hts w (by decide +kernel)'), the script of L ints xs at the cell b, what the Statement gives of the start (any of its parts by flat_of_before) -/
def lw_At (p : Program) (s : State) (m : MethodId) (meth : Method) (c : Code) (b L : Nat) (xs : Nat → Int32) : Prop :=
  p.tables.exec = Jvm.exec ∧ c.code = code ∧ meth.sig.returnType = ret ∧ c.maxLocals = 4 ∧ s.vm.findClass R_law = some m.cls ∧ (∀ w ∈ lw_tbl, w.before #[Value.ref b] s = true) ∧ va_X b L xs s s.heap ∧ b < s.heap.size ∧ meth.locks = false ∧ (Jvm.Cond.and given_1 narrow_1).before #[Value.ref b] s = true

def RX0 : String := "SeaWatches$Dealing"
def TX0 : u_T := fun k => match k with
  | 0 => ("SeaWatches$Dealing", "doubts", "[I", true)
  | 1 => ("SeaWatches$Dealing", "way", "[I", true)
  | 2 => ("SeaWatches$Dealing", "best", "[I", true)
  | 3 => ("SeaWatches$Dealing", "voyages", "[I", true)
  | 4 => ("SeaWatches$Dealing", "given", "[I", true)
  | 5 => ("SeaWatches$Dealing", "listed", "I", false)
  | 6 => ("SeaWatches$Dealing", "shared", "I", false)
  | 7 => ("SeaWatches$Dealing", "sailing", "I", false)
  | _ => ("SeaWatches$Dealing", "leastWorst", "I", false)
def tyX0 : Nat → FieldType := fun k => match k with
  | 0 => .array .int
  | 1 => .array .int
  | 2 => .array .int
  | 3 => .array .int
  | 4 => .array .int
  | 5 => .int
  | 6 => .int
  | 7 => .int
  | _ => .int
abbrev wsX00 : List Cond := u_ws RX0 TX0 9
theorem nmX0 : ∀ a, a < 9 → ∀ b, b < 9 → a ≠ b → (TX0 a).2.1 ≠ (TX0 b).2.1 := by decide +kernel
theorem tyX0_ok : ∀ k, k < 9 → parseFieldDescriptor (TX0 k).2.2.1 = some (tyX0 k) := by decide +kernel
def RX1 : String := "SeaWatches$Fit"
def TX1 : u_T := fun k => match k with
  | 0 => ("SeaWatches$Fit", "n", "J", false)
  | 1 => ("SeaWatches$Fit", "sumR", "J", false)
  | 2 => ("SeaWatches$Fit", "sumW", "J", false)
  | 3 => ("SeaWatches$Fit", "sumA", "J", false)
  | 4 => ("SeaWatches$Fit", "sumWW", "J", false)
  | 5 => ("SeaWatches$Fit", "sumAA", "J", false)
  | 6 => ("SeaWatches$Fit", "sumWA", "J", false)
  | 7 => ("SeaWatches$Fit", "sumWR", "J", false)
  | 8 => ("SeaWatches$Fit", "sumAR", "J", false)
  | 9 => ("SeaWatches$Fit", "divisor", "J", false)
  | 10 => ("SeaWatches$Fit", "byWarmth", "J", false)
  | 11 => ("SeaWatches$Fit", "byAge", "J", false)
  | 12 => ("SeaWatches$Fit", "form", "I", false)
  | 13 => ("SeaWatches$Fit", "whole", "J", false)
  | _ => ("SeaWatches$Fit", "rest", "J", false)
def tyX1 : Nat → FieldType := fun k => match k with
  | 0 => .long
  | 1 => .long
  | 2 => .long
  | 3 => .long
  | 4 => .long
  | 5 => .long
  | 6 => .long
  | 7 => .long
  | 8 => .long
  | 9 => .long
  | 10 => .long
  | 11 => .long
  | 12 => .int
  | 13 => .long
  | _ => .long
abbrev wsX10 : List Cond := u_ws RX1 TX1 15
theorem nmX1 : ∀ a, a < 15 → ∀ b, b < 15 → a ≠ b → (TX1 a).2.1 ≠ (TX1 b).2.1 := by decide +kernel
theorem tyX1_ok : ∀ k, k < 15 → parseFieldDescriptor (TX1 k).2.2.1 = some (tyX1 k) := by decide +kernel
def RX2 : String := "SeaWatches$Offs"
def TX2 : u_T := fun k => match k with
  | 0 => ("SeaWatches$Offs", "signals", "[I", true)
  | 1 => ("SeaWatches$Offs", "firsts", "[I", true)
  | 2 => ("SeaWatches$Offs", "lasts", "[I", true)
  | 3 => ("SeaWatches$Offs", "values", "[I", true)
  | 4 => ("SeaWatches$Offs", "toldOn", "[I", true)
  | _ => ("SeaWatches$Offs", "size", "I", false)
def tyX2 : Nat → FieldType := fun k => match k with
  | 0 => .array .int
  | 1 => .array .int
  | 2 => .array .int
  | 3 => .array .int
  | 4 => .array .int
  | _ => .int
abbrev wsX20 : List Cond := u_ws RX2 TX2 6
theorem nmX2 : ∀ a, a < 6 → ∀ b, b < 6 → a ≠ b → (TX2 a).2.1 ≠ (TX2 b).2.1 := by decide +kernel
theorem tyX2_ok : ∀ k, k < 6 → parseFieldDescriptor (TX2 k).2.2.1 = some (tyX2 k) := by decide +kernel
def RX3 : String := "SeaWatches$Rates"
def TX3 : u_T := fun k => match k with
  | 0 => ("SeaWatches$Rates", "days", "[I", true)
  | 1 => ("SeaWatches$Rates", "values", "[I", true)
  | 2 => ("SeaWatches$Rates", "sorted", "[I", true)
  | _ => ("SeaWatches$Rates", "size", "I", false)
def tyX3 : Nat → FieldType := fun k => match k with
  | 0 => .array .int
  | 1 => .array .int
  | 2 => .array .int
  | _ => .int
abbrev wsX30 : List Cond := u_ws RX3 TX3 4
theorem nmX3 : ∀ a, a < 4 → ∀ b, b < 4 → a ≠ b → (TX3 a).2.1 ≠ (TX3 b).2.1 := by decide +kernel
theorem tyX3_ok : ∀ k, k < 4 → parseFieldDescriptor (TX3 k).2.2.1 = some (tyX3 k) := by decide +kernel
def RX4 : String := "SeaWatches$Rule"
def TX4 : u_T := fun k => match k with
  | 0 => ("SeaWatches$Rule", "signs", "[I", true)
  | 1 => ("SeaWatches$Rule", "values", "[I", true)
  | 2 => ("SeaWatches$Rule", "stack", "[I", true)
  | _ => ("SeaWatches$Rule", "size", "I", false)
def tyX4 : Nat → FieldType := fun k => match k with
  | 0 => .array .int
  | 1 => .array .int
  | 2 => .array .int
  | _ => .int
abbrev wsX40 : List Cond := u_ws RX4 TX4 4
theorem nmX4 : ∀ a, a < 4 → ∀ b, b < 4 → a ≠ b → (TX4 a).2.1 ≠ (TX4 b).2.1 := by decide +kernel
theorem tyX4_ok : ∀ k, k < 4 → parseFieldDescriptor (TX4 k).2.2.1 = some (tyX4 k) := by decide +kernel
def RX5 : String := "SeaWatches$Ship"
def TX5 : u_T := fun k => match k with
  | 0 => ("SeaWatches$Ship", "places", "[I", true)
  | 1 => ("SeaWatches$Ship", "starts", "[I", true)
  | 2 => ("SeaWatches$Ship", "goings", "[I", true)
  | 3 => ("SeaWatches$Ship", "doubts", "[I", true)
  | 4 => ("SeaWatches$Ship", "ends", "[I", true)
  | 5 => ("SeaWatches$Ship", "sightDays", "[I", true)
  | 6 => ("SeaWatches$Ship", "shown", "[I", true)
  | 7 => ("SeaWatches$Ship", "sights", "I", false)
  | 8 => ("SeaWatches$Ship", "stage", "I", false)
  | 9 => ("SeaWatches$Ship", "sailed", "I", false)
  | _ => ("SeaWatches$Ship", "voyage", "I", false)
def tyX5 : Nat → FieldType := fun k => match k with
  | 0 => .array .int
  | 1 => .array .int
  | 2 => .array .int
  | 3 => .array .int
  | 4 => .array .int
  | 5 => .array .int
  | 6 => .array .int
  | 7 => .int
  | 8 => .int
  | 9 => .int
  | _ => .int
abbrev wsX50 : List Cond := u_ws RX5 TX5 11
theorem nmX5 : ∀ a, a < 11 → ∀ b, b < 11 → a ≠ b → (TX5 a).2.1 ≠ (TX5 b).2.1 := by decide +kernel
theorem tyX5_ok : ∀ k, k < 11 → parseFieldDescriptor (TX5 k).2.2.1 = some (tyX5 k) := by decide +kernel
def RX6 : String := "SeaWatches$Tape"
def TX6 : u_T := fun k => match k with
  | 0 => ("SeaWatches$Tape", "bytes", "[I", true)
  | 1 => ("SeaWatches$Tape", "size", "I", false)
  | 2 => ("SeaWatches$Tape", "rule", "LSeaWatches$Rule;", false)
  | 3 => ("SeaWatches$Tape", "words", "Ljava/lang/String;", false)
  | 4 => ("SeaWatches$Tape", "at", "I", false)
  | 5 => ("SeaWatches$Tape", "word", "I", false)
  | 6 => ("SeaWatches$Tape", "wordAt", "I", false)
  | _ => ("SeaWatches$Tape", "value", "I", false)
def tyX6 : Nat → FieldType := fun k => match k with
  | 0 => .array .int
  | 1 => .int
  | 2 => .object "SeaWatches$Rule"
  | 3 => .object "java/lang/String"
  | 4 => .int
  | 5 => .int
  | 6 => .int
  | _ => .int
abbrev wsX60 : List Cond := u_ws RX6 TX6 8
theorem nmX6 : ∀ a, a < 8 → ∀ b, b < 8 → a ≠ b → (TX6 a).2.1 ≠ (TX6 b).2.1 := by decide +kernel
theorem tyX6_ok : ∀ k, k < 8 → parseFieldDescriptor (TX6 k).2.2.1 = some (tyX6 k) := by decide +kernel
def RX7 : String := "SeaWatches$Watch"
def TX7 : u_T := fun k => match k with
  | 0 => ("SeaWatches$Watch", "tolds", "[I", true)
  | 1 => ("SeaWatches$Watch", "sources", "[I", true)
  | 2 => ("SeaWatches$Watch", "marks", "[I", true)
  | _ => ("SeaWatches$Watch", "holders", "[I", true)
def tyX7 : Nat → FieldType := fun k => match k with
  | 0 => .array .int
  | 1 => .array .int
  | 2 => .array .int
  | _ => .array .int
abbrev wsX70 : List Cond := u_ws RX7 TX7 4
theorem nmX7 : ∀ a, a < 4 → ∀ b, b < 4 → a ≠ b → (TX7 a).2.1 ≠ (TX7 b).2.1 := by decide +kernel
theorem tyX7_ok : ∀ k, k < 4 → parseFieldDescriptor (TX7 k).2.2.1 = some (tyX7 k) := by decide +kernel
def RX8 : String := "SeaWatches"
def TX8 : u_T := fun k => match k with
  | 0 => ("SeaWatches", "warmths", "[I", true)
  | 1 => ("SeaWatches", "kinds", "[I", true)
  | 2 => ("SeaWatches", "numbers", "[I", true)
  | 3 => ("SeaWatches", "watches", "[LSeaWatches$Watch;", true)
  | 4 => ("SeaWatches", "ships", "[LSeaWatches$Ship;", true)
  | 5 => ("SeaWatches", "names", "[I", true)
  | 6 => ("SeaWatches", "offs", "LSeaWatches$Offs;", true)
  | 7 => ("SeaWatches", "rates", "LSeaWatches$Rates;", true)
  | 8 => ("SeaWatches", "fit", "LSeaWatches$Fit;", true)
  | 9 => ("SeaWatches", "tape", "LSeaWatches$Tape;", true)
  | 10 => ("SeaWatches", "dealing", "LSeaWatches$Dealing;", true)
  | 11 => ("SeaWatches", "trialRule", "LSeaWatches$Rule;", false)
  | 12 => ("SeaWatches", "dropRule", "LSeaWatches$Rule;", false)
  | _ => ("SeaWatches", "today", "I", false)
def tyX8 : Nat → FieldType := fun k => match k with
  | 0 => .array .int
  | 1 => .array .int
  | 2 => .array .int
  | 3 => .array (.object "SeaWatches$Watch")
  | 4 => .array (.object "SeaWatches$Ship")
  | 5 => .array .int
  | 6 => .object "SeaWatches$Offs"
  | 7 => .object "SeaWatches$Rates"
  | 8 => .object "SeaWatches$Fit"
  | 9 => .object "SeaWatches$Tape"
  | 10 => .object "SeaWatches$Dealing"
  | 11 => .object "SeaWatches$Rule"
  | 12 => .object "SeaWatches$Rule"
  | _ => .int
abbrev wsX80 : List Cond := u_ws RX8 TX8 14
theorem nmX8 : ∀ a, a < 14 → ∀ b, b < 14 → a ≠ b → (TX8 a).2.1 ≠ (TX8 b).2.1 := by decide +kernel
theorem tyX8_ok : ∀ k, k < 14 → parseFieldDescriptor (TX8 k).2.2.1 = some (tyX8 k) := by decide +kernel
def RX9 : String := "SeaWatchesModel"
def TX9 : u_T := fun k => match k with
  | 0 => ("SeaWatchesModel", "code", "I", false)
  | 1 => ("SeaWatchesModel", "today", "I", false)
  | 2 => ("SeaWatchesModel", "warmths", "[I", true)
  | 3 => ("SeaWatchesModel", "kind", "[I", true)
  | 4 => ("SeaWatchesModel", "mark", "[I", true)
  | 5 => ("SeaWatchesModel", "has", "[Z", true)
  | 6 => ("SeaWatchesModel", "errors", "[I", true)
  | 7 => ("SeaWatchesModel", "sources", "[I", true)
  | 8 => ("SeaWatchesModel", "repaired", "[Z", true)
  | 9 => ("SeaWatchesModel", "lateOn", "[Z", true)
  | 10 => ("SeaWatchesModel", "holders", "[I", true)
  | 11 => ("SeaWatchesModel", "offs", "I", false)
  | 12 => ("SeaWatchesModel", "offSignal", "[I", true)
  | 13 => ("SeaWatchesModel", "offFrom", "[I", true)
  | 14 => ("SeaWatchesModel", "offTo", "[I", true)
  | 15 => ("SeaWatchesModel", "offBy", "[I", true)
  | 16 => ("SeaWatchesModel", "offDay", "[I", true)
  | 17 => ("SeaWatchesModel", "many", "J", false)
  | 18 => ("SeaWatchesModel", "sumW", "J", false)
  | 19 => ("SeaWatchesModel", "sumA", "J", false)
  | 20 => ("SeaWatchesModel", "sumR", "J", false)
  | 21 => ("SeaWatchesModel", "sumWW", "J", false)
  | 22 => ("SeaWatchesModel", "sumWA", "J", false)
  | 23 => ("SeaWatchesModel", "sumAA", "J", false)
  | 24 => ("SeaWatchesModel", "sumWR", "J", false)
  | 25 => ("SeaWatchesModel", "sumAR", "J", false)
  | 26 => ("SeaWatchesModel", "upper", "J", false)
  | 27 => ("SeaWatchesModel", "lower", "J", false)
  | 28 => ("SeaWatchesModel", "rates", "I", false)
  | 29 => ("SeaWatchesModel", "rateDay", "[I", true)
  | 30 => ("SeaWatchesModel", "rate", "[I", true)
  | 31 => ("SeaWatchesModel", "sorted", "[I", true)
  | 32 => ("SeaWatchesModel", "tape", "[B", true)
  | 33 => ("SeaWatchesModel", "taped", "I", false)
  | 34 => ("SeaWatchesModel", "hasRule", "[Z", true)
  | 35 => ("SeaWatchesModel", "ruleSize", "[I", true)
  | 36 => ("SeaWatchesModel", "step", "[I", true)
  | 37 => ("SeaWatchesModel", "number", "[I", true)
  | 38 => ("SeaWatchesModel", "laid", "I", false)
  | 39 => ("SeaWatchesModel", "at", "I", false)
  | 40 => ("SeaWatchesModel", "tk", "I", false)
  | 41 => ("SeaWatchesModel", "tkAt", "I", false)
  | 42 => ("SeaWatchesModel", "tkNumber", "I", false)
  | 43 => ("SeaWatchesModel", "wait", "[I", true)
  | 44 => ("SeaWatchesModel", "waits", "I", false)
  | 45 => ("SeaWatchesModel", "pile", "[I", true)
  | 46 => ("SeaWatchesModel", "named", "[I", true)
  | 47 => ("SeaWatchesModel", "shipState", "[I", true)
  | 48 => ("SeaWatchesModel", "sailedOn", "[I", true)
  | 49 => ("SeaWatchesModel", "backAfter", "[I", true)
  | 50 => ("SeaWatchesModel", "carriedAt", "[I", true)
  | 51 => ("SeaWatchesModel", "start", "[I", true)
  | 52 => ("SeaWatchesModel", "going", "[I", true)
  | 53 => ("SeaWatchesModel", "doubts", "[I", true)
  | 54 => ("SeaWatchesModel", "backError", "[I", true)
  | 55 => ("SeaWatchesModel", "sights", "[I", true)
  | 56 => ("SeaWatchesModel", "sightDay", "[I", true)
  | 57 => ("SeaWatchesModel", "shown", "[I", true)
  | 58 => ("SeaWatchesModel", "asks", "[I", true)
  | 59 => ("SeaWatchesModel", "times", "[I", true)
  | 60 => ("SeaWatchesModel", "widths", "[I", true)
  | 61 => ("SeaWatchesModel", "listed", "I", false)
  | 62 => ("SeaWatchesModel", "list", "[I", true)
  | 63 => ("SeaWatchesModel", "dealt", "[I", true)
  | 64 => ("SeaWatchesModel", "dealtMany", "I", false)
  | 65 => ("SeaWatchesModel", "way", "[I", true)
  | 66 => ("SeaWatchesModel", "dealDays", "[I", true)
  | _ => ("SeaWatchesModel", "given", "[I", true)
def tyX9 : Nat → FieldType := fun k => match k with
  | 0 => .int
  | 1 => .int
  | 2 => .array .int
  | 3 => .array .int
  | 4 => .array .int
  | 5 => .array .boolean
  | 6 => .array .int
  | 7 => .array .int
  | 8 => .array .boolean
  | 9 => .array .boolean
  | 10 => .array .int
  | 11 => .int
  | 12 => .array .int
  | 13 => .array .int
  | 14 => .array .int
  | 15 => .array .int
  | 16 => .array .int
  | 17 => .long
  | 18 => .long
  | 19 => .long
  | 20 => .long
  | 21 => .long
  | 22 => .long
  | 23 => .long
  | 24 => .long
  | 25 => .long
  | 26 => .long
  | 27 => .long
  | 28 => .int
  | 29 => .array .int
  | 30 => .array .int
  | 31 => .array .int
  | 32 => .array .byte
  | 33 => .int
  | 34 => .array .boolean
  | 35 => .array .int
  | 36 => .array .int
  | 37 => .array .int
  | 38 => .int
  | 39 => .int
  | 40 => .int
  | 41 => .int
  | 42 => .int
  | 43 => .array .int
  | 44 => .int
  | 45 => .array .int
  | 46 => .array .int
  | 47 => .array .int
  | 48 => .array .int
  | 49 => .array .int
  | 50 => .array .int
  | 51 => .array .int
  | 52 => .array .int
  | 53 => .array .int
  | 54 => .array .int
  | 55 => .array .int
  | 56 => .array .int
  | 57 => .array .int
  | 58 => .array .int
  | 59 => .array .int
  | 60 => .array .int
  | 61 => .int
  | 62 => .array .int
  | 63 => .array .int
  | 64 => .int
  | 65 => .array .int
  | 66 => .array .int
  | _ => .array .int
abbrev wsX90 : List Cond := u_ws RX9 TX9 68
theorem nmX9 : ∀ a, a < 68 → ∀ b, b < 68 → a ≠ b → (TX9 a).2.1 ≠ (TX9 b).2.1 := by decide +kernel
theorem tyX9_ok : ∀ k, k < 68 → parseFieldDescriptor (TX9 k).2.2.1 = some (tyX9 k) := by decide +kernel
abbrev cX0_init : ByteArray := prog_2_method_1_code
def yX0_init : MethodName := ⟨RX0, "<init>", "()V"⟩
abbrev cX0_add : ByteArray := prog_2_method_2_code
def yX0_add : MethodName := ⟨RX0, "add", "(I)V"⟩
abbrev cX0_shareOut : ByteArray := prog_2_method_3_code
def yX0_shareOut : MethodName := ⟨RX0, "shareOut", "(IIII)I"⟩
abbrev cX0_tryFrom : ByteArray := prog_2_method_4_code
def yX0_tryFrom : MethodName := ⟨RX0, "tryFrom", "(II)V"⟩
abbrev cX0_keepIfBetter : ByteArray := prog_2_method_5_code
def yX0_keepIfBetter : MethodName := ⟨RX0, "keepIfBetter", "()V"⟩
abbrev cX0_secondLeast : ByteArray := prog_2_method_6_code
def yX0_secondLeast : MethodName := ⟨RX0, "secondLeast", "(I)I"⟩
abbrev cX1_init : ByteArray := prog_3_method_1_code
def yX1_init : MethodName := ⟨RX1, "<init>", "()V"⟩
abbrev cX1_clear : ByteArray := prog_3_method_2_code
def yX1_clear : MethodName := ⟨RX1, "clear", "()V"⟩
abbrev cX1_add : ByteArray := prog_3_method_3_code
def yX1_add : MethodName := ⟨RX1, "add", "(JJJ)V"⟩
abbrev cX1_size : ByteArray := prog_3_method_4_code
def yX1_size : MethodName := ⟨RX1, "size", "()I"⟩
abbrev cX1_form : ByteArray := prog_3_method_5_code
def yX1_form : MethodName := ⟨RX1, "form", "()I"⟩
abbrev cX1_solve : ByteArray := prog_3_method_6_code
def yX1_solve : MethodName := ⟨RX1, "solve", "()V"⟩
abbrev cX1_setLaw : ByteArray := prog_3_method_7_code
def yX1_setLaw : MethodName := ⟨RX1, "setLaw", "(IJJJ)V"⟩
abbrev cX1_thousandfold : ByteArray := prog_3_method_8_code
def yX1_thousandfold : MethodName := ⟨RX1, "thousandfold", "(II)J"⟩
abbrev cX1_addProduct : ByteArray := prog_3_method_9_code
def yX1_addProduct : MethodName := ⟨RX1, "addProduct", "(JJ)V"⟩
abbrev cX2_init : ByteArray := prog_4_method_1_code
def yX2_init : MethodName := ⟨RX2, "<init>", "()V"⟩
abbrev cX2_add : ByteArray := prog_4_method_2_code
def yX2_add : MethodName := ⟨RX2, "add", "(IIIII)V"⟩
abbrev cX2_sumFor : ByteArray := prog_4_method_3_code
def yX2_sumFor : MethodName := ⟨RX2, "sumFor", "(III)I"⟩
abbrev cX3_init : ByteArray := prog_5_method_1_code
def yX3_init : MethodName := ⟨RX3, "<init>", "()V"⟩
abbrev cX3_gather : ByteArray := prog_5_method_2_code
def yX3_gather : MethodName := ⟨RX3, "gather", "(LSeaWatches$Watch;LSeaWatches$Offs;II)V"⟩
abbrev cX3_least : ByteArray := prog_5_method_3_code
def yX3_least : MethodName := ⟨RX3, "least", "()I"⟩
abbrev cX3_most : ByteArray := prog_5_method_4_code
def yX3_most : MethodName := ⟨RX3, "most", "()I"⟩
abbrev cX3_sum : ByteArray := prog_5_method_5_code
def yX3_sum : MethodName := ⟨RX3, "sum", "()I"⟩
abbrev cX3_drift : ByteArray := prog_5_method_6_code
def yX3_drift : MethodName := ⟨RX3, "drift", "()I"⟩
abbrev cX3_greatestStep : ByteArray := prog_5_method_7_code
def yX3_greatestStep : MethodName := ⟨RX3, "greatestStep", "()I"⟩
abbrev cX3_dayFarthestOff : ByteArray := prog_5_method_8_code
def yX3_dayFarthestOff : MethodName := ⟨RX3, "dayFarthestOff", "(I)I"⟩
abbrev cX3_middleOne : ByteArray := prog_5_method_9_code
def yX3_middleOne : MethodName := ⟨RX3, "middleOne", "()I"⟩
abbrev cX4_init : ByteArray := prog_6_method_1_code
def yX4_init : MethodName := ⟨RX4, "<init>", "()V"⟩
abbrev cX4_add : ByteArray := prog_6_method_2_code
def yX4_add : MethodName := ⟨RX4, "add", "(II)V"⟩
abbrev cX4_workOut : ByteArray := prog_6_method_3_code
def yX4_workOut : MethodName := ⟨RX4, "workOut", "([I)I"⟩
abbrev cX4_isAhead : ByteArray := prog_6_method_4_code
def yX4_isAhead : MethodName := ⟨RX4, "isAhead", "(I)Z"⟩
abbrev cX4_workOutOne : ByteArray := prog_6_method_5_code
def yX4_workOutOne : MethodName := ⟨RX4, "workOutOne", "(II)I"⟩
abbrev cX4_workOutTwo : ByteArray := prog_6_method_6_code
def yX4_workOutTwo : MethodName := ⟨RX4, "workOutTwo", "(III)I"⟩
abbrev cX5_init : ByteArray := prog_7_method_1_code
def yX5_init : MethodName := ⟨RX5, "<init>", "()V"⟩
abbrev cX5_leave : ByteArray := prog_7_method_2_code
def yX5_leave : MethodName := ⟨RX5, "leave", "(I)V"⟩
abbrev cX5_carry : ByteArray := prog_7_method_3_code
def yX5_carry : MethodName := ⟨RX5, "carry", "(IIIII)V"⟩
abbrev cX5_comeBack : ByteArray := prog_7_method_4_code
def yX5_comeBack : MethodName := ⟨RX5, "comeBack", "(I)V"⟩
abbrev cX5_mayBeSighted : ByteArray := prog_7_method_5_code
def yX5_mayBeSighted : MethodName := ⟨RX5, "mayBeSighted", "(I)Z"⟩
abbrev cX5_addSight : ByteArray := prog_7_method_6_code
def yX5_addSight : MethodName := ⟨RX5, "addSight", "(IIII)I"⟩
abbrev cX5_isOf : ByteArray := prog_7_method_7_code
def yX5_isOf : MethodName := ⟨RX5, "isOf", "(II)Z"⟩
abbrev cX5_daysSince : ByteArray := prog_7_method_8_code
def yX5_daysSince : MethodName := ⟨RX5, "daysSince", "(I)I"⟩
abbrev cX5_timeOf : ByteArray := prog_7_method_9_code
def yX5_timeOf : MethodName := ⟨RX5, "timeOf", "(II)I"⟩
abbrev cX5_widthOf : ByteArray := prog_7_method_10_code
def yX5_widthOf : MethodName := ⟨RX5, "widthOf", "(II)I"⟩
abbrev cX5_offFromOthers : ByteArray := prog_7_method_11_code
def yX5_offFromOthers : MethodName := ⟨RX5, "offFromOthers", "(II)I"⟩
abbrev cX5_beginOf : ByteArray := prog_7_method_12_code
def yX5_beginOf : MethodName := ⟨RX5, "beginOf", "(II)I"⟩
abbrev cX5_endOf : ByteArray := prog_7_method_13_code
def yX5_endOf : MethodName := ⟨RX5, "endOf", "(II)I"⟩
abbrev cX6_init : ByteArray := prog_8_method_1_code
def yX6_init : MethodName := ⟨RX6, "<init>", "()V"⟩
abbrev cX6_add : ByteArray := prog_8_method_2_code
def yX6_add : MethodName := ⟨RX6, "add", "(I)V"⟩
abbrev cX6_readAsRule : ByteArray := prog_8_method_3_code
def yX6_readAsRule : MethodName := ⟨RX6, "readAsRule", "(Ljava/lang/String;)I"⟩
abbrev cX6_exchangeRule : ByteArray := prog_8_method_4_code
def yX6_exchangeRule : MethodName := ⟨RX6, "exchangeRule", "(LSeaWatches$Rule;)LSeaWatches$Rule;"⟩
abbrev cX6_readEither : ByteArray := prog_8_method_5_code
def yX6_readEither : MethodName := ⟨RX6, "readEither", "(I)Z"⟩
abbrev cX6_readBoth : ByteArray := prog_8_method_6_code
def yX6_readBoth : MethodName := ⟨RX6, "readBoth", "(I)Z"⟩
abbrev cX6_readNegation : ByteArray := prog_8_method_7_code
def yX6_readNegation : MethodName := ⟨RX6, "readNegation", "(I)Z"⟩
abbrev cX6_readComparison : ByteArray := prog_8_method_8_code
def yX6_readComparison : MethodName := ⟨RX6, "readComparison", "(I)Z"⟩
abbrev cX6_readSum : ByteArray := prog_8_method_9_code
def yX6_readSum : MethodName := ⟨RX6, "readSum", "(I)Z"⟩
abbrev cX6_readProduct : ByteArray := prog_8_method_10_code
def yX6_readProduct : MethodName := ⟨RX6, "readProduct", "(I)Z"⟩
abbrev cX6_readOperand : ByteArray := prog_8_method_11_code
def yX6_readOperand : MethodName := ⟨RX6, "readOperand", "(I)Z"⟩
abbrev cX6_readInBrackets : ByteArray := prog_8_method_12_code
def yX6_readInBrackets : MethodName := ⟨RX6, "readInBrackets", "(I)Z"⟩
abbrev cX6_goOn : ByteArray := prog_8_method_13_code
def yX6_goOn : MethodName := ⟨RX6, "goOn", "()V"⟩
abbrev cX6_takeLetters : ByteArray := prog_8_method_14_code
def yX6_takeLetters : MethodName := ⟨RX6, "takeLetters", "()V"⟩
abbrev cX6_takeDigits : ByteArray := prog_8_method_15_code
def yX6_takeDigits : MethodName := ⟨RX6, "takeDigits", "()V"⟩
abbrev cX6_placeAmongWords : ByteArray := prog_8_method_16_code
def yX6_placeAmongWords : MethodName := ⟨RX6, "placeAmongWords", "()I"⟩
abbrev cX6_isOnTape : ByteArray := prog_8_method_17_code
def yX6_isOnTape : MethodName := ⟨RX6, "isOnTape", "(II)Z"⟩
abbrev cX6_isLetter : ByteArray := prog_8_method_18_code
def yX6_isLetter : MethodName := ⟨RX6, "isLetter", "(I)Z"⟩
abbrev cX6_isDigit : ByteArray := prog_8_method_19_code
def yX6_isDigit : MethodName := ⟨RX6, "isDigit", "(I)Z"⟩
abbrev cX6_isSign : ByteArray := prog_8_method_20_code
def yX6_isSign : MethodName := ⟨RX6, "isSign", "(I)Z"⟩
abbrev cX7_init : ByteArray := prog_9_method_1_code
def yX7_init : MethodName := ⟨RX7, "<init>", "()V"⟩
abbrev cX7_becomeNew : ByteArray := prog_9_method_2_code
def yX7_becomeNew : MethodName := ⟨RX7, "becomeNew", "()V"⟩
abbrev cX7_isCompared : ByteArray := prog_9_method_3_code
def yX7_isCompared : MethodName := ⟨RX7, "isCompared", "(I)Z"⟩
abbrev cX7_tell : ByteArray := prog_9_method_4_code
def yX7_tell : MethodName := ⟨RX7, "tell", "(III)V"⟩
abbrev cX7_errorAsKnown : ByteArray := prog_9_method_5_code
def yX7_errorAsKnown : MethodName := ⟨RX7, "errorAsKnown", "(ILSeaWatches$Offs;I)I"⟩
abbrev cX7_rateAsKnown : ByteArray := prog_9_method_6_code
def yX7_rateAsKnown : MethodName := ⟨RX7, "rateAsKnown", "(ILSeaWatches$Offs;I)I"⟩
abbrev cX7_rateBetween : ByteArray := prog_9_method_7_code
def yX7_rateBetween : MethodName := ⟨RX7, "rateBetween", "(III)I"⟩
abbrev cX7_isMarked : ByteArray := prog_9_method_8_code
def yX7_isMarked : MethodName := ⟨RX7, "isMarked", "(II)Z"⟩
abbrev cX7_addMark : ByteArray := prog_9_method_9_code
def yX7_addMark : MethodName := ⟨RX7, "addMark", "(II)Z"⟩
abbrev cX7_ageOn : ByteArray := prog_9_method_10_code
def yX7_ageOn : MethodName := ⟨RX7, "ageOn", "(I)I"⟩
abbrev cX7_holderOn : ByteArray := prog_9_method_11_code
def yX7_holderOn : MethodName := ⟨RX7, "holderOn", "(I)I"⟩
abbrev cX7_giveTo : ByteArray := prog_9_method_12_code
def yX7_giveTo : MethodName := ⟨RX7, "giveTo", "(II)V"⟩
abbrev cX7_daysAway : ByteArray := prog_9_method_13_code
def yX7_daysAway : MethodName := ⟨RX7, "daysAway", "(I)I"⟩
abbrev cX8_init : ByteArray := prog_1_method_1_code
def yX8_init : MethodName := ⟨RX8, "<init>", "()V"⟩
abbrev cX8_days : ByteArray := prog_1_method_2_code
def yX8_days : MethodName := ⟨RX8, "days", "(I)I"⟩
abbrev cX8_warmth : ByteArray := prog_1_method_3_code
def yX8_warmth : MethodName := ⟨RX8, "warmth", "(II)I"⟩
abbrev cX8_put : ByteArray := prog_1_method_4_code
def yX8_put : MethodName := ⟨RX8, "put", "(III)I"⟩
abbrev cX8_take : ByteArray := prog_1_method_5_code
def yX8_take : MethodName := ⟨RX8, "take", "(I)I"⟩
abbrev cX8_holds : ByteArray := prog_1_method_6_code
def yX8_holds : MethodName := ⟨RX8, "holds", "(I)I"⟩
abbrev cX8_read : ByteArray := prog_1_method_7_code
def yX8_read : MethodName := ⟨RX8, "read", "(I)I"⟩
abbrev cX8_compare : ByteArray := prog_1_method_8_code
def yX8_compare : MethodName := ⟨RX8, "compare", "(IIII)I"⟩
abbrev cX8_error : ByteArray := prog_1_method_9_code
def yX8_error : MethodName := ⟨RX8, "error", "(III)I"⟩
abbrev cX8_rate : ByteArray := prog_1_method_10_code
def yX8_rate : MethodName := ⟨RX8, "rate", "(III)I"⟩
abbrev cX8_repair : ByteArray := prog_1_method_11_code
def yX8_repair : MethodName := ⟨RX8, "repair", "(II)I"⟩
abbrev cX8_late : ByteArray := prog_1_method_12_code
def yX8_late : MethodName := ⟨RX8, "late", "(II)I"⟩
abbrev cX8_age : ByteArray := prog_1_method_13_code
def yX8_age : MethodName := ⟨RX8, "age", "(II)I"⟩
abbrev cX8_off : ByteArray := prog_1_method_14_code
def yX8_off : MethodName := ⟨RX8, "off", "(IIII)I"⟩
abbrev cX8_changed : ByteArray := prog_1_method_15_code
def yX8_changed : MethodName := ⟨RX8, "changed", "(IIII)I"⟩
abbrev cX8_law : ByteArray := prog_1_method_16_code
def yX8_law : MethodName := ⟨RX8, "law", "(III)I"⟩
abbrev cX8_terms : ByteArray := prog_1_method_17_code
def yX8_terms : MethodName := ⟨RX8, "terms", "(III)I"⟩
abbrev cX8_foretold : ByteArray := prog_1_method_18_code
def yX8_foretold : MethodName := ⟨RX8, "foretold", "(IIIII)I"⟩
abbrev cX8_jump : ByteArray := prog_1_method_19_code
def yX8_jump : MethodName := ⟨RX8, "jump", "(IIII)I"⟩
abbrev cX8_feed : ByteArray := prog_1_method_20_code
def yX8_feed : MethodName := ⟨RX8, "feed", "(II)I"⟩
abbrev cX8_rule : ByteArray := prog_1_method_21_code
def yX8_rule : MethodName := ⟨RX8, "rule", "(I)I"⟩
abbrev cX8_trial : ByteArray := prog_1_method_22_code
def yX8_trial : MethodName := ⟨RX8, "trial", "(III)I"⟩
abbrev cX8_order : ByteArray := prog_1_method_23_code
def yX8_order : MethodName := ⟨RX8, "order", "(III)I"⟩
abbrev cX8_sail : ByteArray := prog_1_method_24_code
def yX8_sail : MethodName := ⟨RX8, "sail", "(IIII)I"⟩
abbrev cX8_carried : ByteArray := prog_1_method_25_code
def yX8_carried : MethodName := ⟨RX8, "carried", "(III)I"⟩
abbrev cX8_sight : ByteArray := prog_1_method_26_code
def yX8_sight : MethodName := ⟨RX8, "sight", "(IIIII)I"⟩
abbrev cX8_told : ByteArray := prog_1_method_27_code
def yX8_told : MethodName := ⟨RX8, "told", "(III)I"⟩
abbrev cX8_back : ByteArray := prog_1_method_28_code
def yX8_back : MethodName := ⟨RX8, "back", "(IIII)I"⟩
abbrev cX8_state : ByteArray := prog_1_method_29_code
def yX8_state : MethodName := ⟨RX8, "state", "(I)I"⟩
abbrev cX8_doubt : ByteArray := prog_1_method_30_code
def yX8_doubt : MethodName := ⟨RX8, "doubt", "(I)I"⟩
abbrev cX8_deal : ByteArray := prog_1_method_31_code
def yX8_deal : MethodName := ⟨RX8, "deal", "(III)I"⟩
abbrev cX8_dealt : ByteArray := prog_1_method_32_code
def yX8_dealt : MethodName := ⟨RX8, "dealt", "(I)I"⟩
abbrev cX8_lend : ByteArray := prog_1_method_33_code
def yX8_lend : MethodName := ⟨RX8, "lend", "(II)I"⟩
abbrev cX8_home : ByteArray := prog_1_method_34_code
def yX8_home : MethodName := ⟨RX8, "home", "(I)I"⟩
abbrev cX8_holder : ByteArray := prog_1_method_35_code
def yX8_holder : MethodName := ⟨RX8, "holder", "(II)I"⟩
abbrev cX8_away : ByteArray := prog_1_method_36_code
def yX8_away : MethodName := ⟨RX8, "away", "(I)I"⟩
abbrev cX8_count : ByteArray := prog_1_method_37_code
def yX8_count : MethodName := ⟨RX8, "count", "(I)I"⟩
abbrev cX8_isDay : ByteArray := prog_1_method_38_code
def yX8_isDay : MethodName := ⟨RX8, "isDay", "(I)Z"⟩
abbrev cX8_isPast : ByteArray := prog_1_method_39_code
def yX8_isPast : MethodName := ⟨RX8, "isPast", "(I)Z"⟩
abbrev cX8_isKnowledge : ByteArray := prog_1_method_40_code
def yX8_isKnowledge : MethodName := ⟨RX8, "isKnowledge", "(I)Z"⟩
abbrev cX8_isPlace : ByteArray := prog_1_method_41_code
def yX8_isPlace : MethodName := ⟨RX8, "isPlace", "(I)Z"⟩
abbrev cX8_isShip : ByteArray := prog_1_method_42_code
def yX8_isShip : MethodName := ⟨RX8, "isShip", "(I)Z"⟩
abbrev cX8_isWithin : ByteArray := prog_1_method_43_code
def yX8_isWithin : MethodName := ⟨RX8, "isWithin", "(II)Z"⟩
abbrev cX8_isStretch : ByteArray := prog_1_method_44_code
def yX8_isStretch : MethodName := ⟨RX8, "isStretch", "(II)Z"⟩
abbrev cX8_fitsKind : ByteArray := prog_1_method_45_code
def yX8_fitsKind : MethodName := ⟨RX8, "fitsKind", "(II)Z"⟩
abbrev cX8_watchAt : ByteArray := prog_1_method_46_code
def yX8_watchAt : MethodName := ⟨RX8, "watchAt", "(I)LSeaWatches$Watch;"⟩
abbrev cX8_lackAt : ByteArray := prog_1_method_47_code
def yX8_lackAt : MethodName := ⟨RX8, "lackAt", "(I)I"⟩
abbrev cX8_firstLack : ByteArray := prog_1_method_48_code
def yX8_firstLack : MethodName := ⟨RX8, "firstLack", "(III)I"⟩
abbrev cX8_refusalOfStretch : ByteArray := prog_1_method_49_code
def yX8_refusalOfStretch : MethodName := ⟨RX8, "refusalOfStretch", "(III)I"⟩
abbrev cX8_bringWatch : ByteArray := prog_1_method_50_code
def yX8_bringWatch : MethodName := ⟨RX8, "bringWatch", "(I)V"⟩
abbrev cX8_markOn : ByteArray := prog_1_method_51_code
def yX8_markOn : MethodName := ⟨RX8, "markOn", "(III)I"⟩
abbrev cX8_warmthFor : ByteArray := prog_1_method_52_code
def yX8_warmthFor : MethodName := ⟨RX8, "warmthFor", "(II)I"⟩
abbrev cX8_placesWith : ByteArray := prog_1_method_53_code
def yX8_placesWith : MethodName := ⟨RX8, "placesWith", "(I)I"⟩
abbrev cX8_shipsAtSea : ByteArray := prog_1_method_54_code
def yX8_shipsAtSea : MethodName := ⟨RX8, "shipsAtSea", "()I"⟩
abbrev cX8_fitLaw : ByteArray := prog_1_method_55_code
def yX8_fitLaw : MethodName := ⟨RX8, "fitLaw", "(III)V"⟩
abbrev cX8_hasTrial : ByteArray := prog_1_method_56_code
def yX8_hasTrial : MethodName := ⟨RX8, "hasTrial", "(III)Z"⟩
abbrev cX8_workOutTrial : ByteArray := prog_1_method_57_code
def yX8_workOutTrial : MethodName := ⟨RX8, "workOutTrial", "(II)I"⟩
abbrev cX8_warmthSpan : ByteArray := prog_1_method_58_code
def yX8_warmthSpan : MethodName := ⟨RX8, "warmthSpan", "(I)I"⟩
abbrev cX8_gatherBeforeSailing : ByteArray := prog_1_method_59_code
def yX8_gatherBeforeSailing : MethodName := ⟨RX8, "gatherBeforeSailing", "(LSeaWatches$Watch;)V"⟩
abbrev cX8_isFitToSail : ByteArray := prog_1_method_60_code
def yX8_isFitToSail : MethodName := ⟨RX8, "isFitToSail", "(I)Z"⟩
abbrev cX8_board : ByteArray := prog_1_method_61_code
def yX8_board : MethodName := ⟨RX8, "board", "(III)V"⟩
abbrev cX8_unload : ByteArray := prog_1_method_62_code
def yX8_unload : MethodName := ⟨RX8, "unload", "(LSeaWatches$Ship;II)V"⟩
abbrev cX8_droppedOf : ByteArray := prog_1_method_63_code
def yX8_droppedOf : MethodName := ⟨RX8, "droppedOf", "(LSeaWatches$Ship;I)I"⟩
abbrev cX9_in : ByteArray := prog_11_method_2_code
def yX9_in : MethodName := ⟨RX9, "in", "(III)Z"⟩
abbrev cX9_size : ByteArray := prog_11_method_3_code
def yX9_size : MethodName := ⟨RX9, "size", "(I)I"⟩
abbrev cX9_floor : ByteArray := prog_11_method_4_code
def yX9_floor : MethodName := ⟨RX9, "floor", "(JJ)J"⟩
abbrev cX9_init : ByteArray := prog_11_method_5_code
def yX9_init : MethodName := ⟨RX9, "<init>", "()V"⟩
abbrev cX9_isPlace : ByteArray := prog_11_method_6_code
def yX9_isPlace : MethodName := ⟨RX9, "isPlace", "(I)Z"⟩
abbrev cX9_isDay : ByteArray := prog_11_method_7_code
def yX9_isDay : MethodName := ⟨RX9, "isDay", "(I)Z"⟩
abbrev cX9_isWatch : ByteArray := prog_11_method_8_code
def yX9_isWatch : MethodName := ⟨RX9, "isWatch", "(I)Z"⟩
abbrev cX9_watchAt : ByteArray := prog_11_method_9_code
def yX9_watchAt : MethodName := ⟨RX9, "watchAt", "(I)I"⟩
abbrev cX9_days : ByteArray := prog_11_method_10_code
def yX9_days : MethodName := ⟨RX9, "days", "(I)I"⟩
abbrev cX9_warmth : ByteArray := prog_11_method_11_code
def yX9_warmth : MethodName := ⟨RX9, "warmth", "(II)I"⟩
abbrev cX9_put : ByteArray := prog_11_method_12_code
def yX9_put : MethodName := ⟨RX9, "put", "(III)I"⟩
abbrev cX9_holderNow : ByteArray := prog_11_method_13_code
def yX9_holderNow : MethodName := ⟨RX9, "holderNow", "(I)I"⟩
abbrev cX9_take : ByteArray := prog_11_method_14_code
def yX9_take : MethodName := ⟨RX9, "take", "(I)I"⟩
abbrev cX9_holds : ByteArray := prog_11_method_15_code
def yX9_holds : MethodName := ⟨RX9, "holds", "(I)I"⟩
abbrev cX9_read : ByteArray := prog_11_method_16_code
def yX9_read : MethodName := ⟨RX9, "read", "(I)I"⟩
abbrev cX9_compare : ByteArray := prog_11_method_17_code
def yX9_compare : MethodName := ⟨RX9, "compare", "(IIII)I"⟩
abbrev cX9_errorOf : ByteArray := prog_11_method_18_code
def yX9_errorOf : MethodName := ⟨RX9, "errorOf", "(III)I"⟩
abbrev cX9_rateOf : ByteArray := prog_11_method_19_code
def yX9_rateOf : MethodName := ⟨RX9, "rateOf", "(III)I"⟩
abbrev cX9_isKnown : ByteArray := prog_11_method_20_code
def yX9_isKnown : MethodName := ⟨RX9, "isKnown", "(I)Z"⟩
abbrev cX9_error : ByteArray := prog_11_method_21_code
def yX9_error : MethodName := ⟨RX9, "error", "(III)I"⟩
abbrev cX9_rate : ByteArray := prog_11_method_22_code
def yX9_rate : MethodName := ⟨RX9, "rate", "(III)I"⟩
abbrev cX9_repair : ByteArray := prog_11_method_23_code
def yX9_repair : MethodName := ⟨RX9, "repair", "(II)I"⟩
abbrev cX9_late : ByteArray := prog_11_method_24_code
def yX9_late : MethodName := ⟨RX9, "late", "(II)I"⟩
abbrev cX9_ageOf : ByteArray := prog_11_method_25_code
def yX9_ageOf : MethodName := ⟨RX9, "ageOf", "(II)I"⟩
abbrev cX9_age : ByteArray := prog_11_method_26_code
def yX9_age : MethodName := ⟨RX9, "age", "(II)I"⟩
abbrev cX9_off : ByteArray := prog_11_method_27_code
def yX9_off : MethodName := ⟨RX9, "off", "(IIII)I"⟩
abbrev cX9_areDays : ByteArray := prog_11_method_28_code
def yX9_areDays : MethodName := ⟨RX9, "areDays", "(II)Z"⟩
abbrev cX9_changed : ByteArray := prog_11_method_29_code
def yX9_changed : MethodName := ⟨RX9, "changed", "(IIII)I"⟩
abbrev cX9_warmthOf : ByteArray := prog_11_method_30_code
def yX9_warmthOf : MethodName := ⟨RX9, "warmthOf", "(II)I"⟩
abbrev cX9_sumUp : ByteArray := prog_11_method_31_code
def yX9_sumUp : MethodName := ⟨RX9, "sumUp", "(III)V"⟩
abbrev cX9_three : ByteArray := prog_11_method_32_code
def yX9_three : MethodName := ⟨RX9, "three", "()J"⟩
abbrev cX9_two : ByteArray := prog_11_method_33_code
def yX9_two : MethodName := ⟨RX9, "two", "(JJ)J"⟩
abbrev cX9_termsNow : ByteArray := prog_11_method_34_code
def yX9_termsNow : MethodName := ⟨RX9, "termsNow", "()I"⟩
abbrev cX9_asked : ByteArray := prog_11_method_35_code
def yX9_asked : MethodName := ⟨RX9, "asked", "(III)I"⟩
abbrev cX9_law : ByteArray := prog_11_method_36_code
def yX9_law : MethodName := ⟨RX9, "law", "(III)I"⟩
abbrev cX9_terms : ByteArray := prog_11_method_37_code
def yX9_terms : MethodName := ⟨RX9, "terms", "(III)I"⟩
abbrev cX9_byTwo : ByteArray := prog_11_method_38_code
def yX9_byTwo : MethodName := ⟨RX9, "byTwo", "(JJJJ)V"⟩
abbrev cX9_byThree : ByteArray := prog_11_method_39_code
def yX9_byThree : MethodName := ⟨RX9, "byThree", "(JJ)V"⟩
abbrev cX9_foretold : ByteArray := prog_11_method_40_code
def yX9_foretold : MethodName := ⟨RX9, "foretold", "(IIIII)I"⟩
abbrev cX9_findRates : ByteArray := prog_11_method_41_code
def yX9_findRates : MethodName := ⟨RX9, "findRates", "(III)V"⟩
abbrev cX9_jump : ByteArray := prog_11_method_42_code
def yX9_jump : MethodName := ⟨RX9, "jump", "(IIII)I"⟩
abbrev cX9_feed : ByteArray := prog_11_method_43_code
def yX9_feed : MethodName := ⟨RX9, "feed", "(II)I"⟩
abbrev cX9_isLetter : ByteArray := prog_11_method_44_code
def yX9_isLetter : MethodName := ⟨RX9, "isLetter", "(I)Z"⟩
abbrev cX9_isDigit : ByteArray := prog_11_method_45_code
def yX9_isDigit : MethodName := ⟨RX9, "isDigit", "(I)Z"⟩
abbrev cX9_advance : ByteArray := prog_11_method_46_code
def yX9_advance : MethodName := ⟨RX9, "advance", "(I)V"⟩
abbrev cX9_signOf : ByteArray := prog_11_method_47_code
def yX9_signOf : MethodName := ⟨RX9, "signOf", "(I)I"⟩
abbrev cX9_wordOf : ByteArray := prog_11_method_48_code
def yX9_wordOf : MethodName := ⟨RX9, "wordOf", "(JI)I"⟩
abbrev cX9_tight : ByteArray := prog_11_method_49_code
def yX9_tight : MethodName := ⟨RX9, "tight", "(I)I"⟩
abbrev cX9_lay : ByteArray := prog_11_method_50_code
def yX9_lay : MethodName := ⟨RX9, "lay", "(II)V"⟩
abbrev cX9_done : ByteArray := prog_11_method_51_code
def yX9_done : MethodName := ⟨RX9, "done", "(I)V"⟩
abbrev cX9_opened : ByteArray := prog_11_method_52_code
def yX9_opened : MethodName := ⟨RX9, "opened", "()I"⟩
abbrev cX9_readRule : ByteArray := prog_11_method_53_code
def yX9_readRule : MethodName := ⟨RX9, "readRule", "(I)I"⟩
abbrev cX9_rule : ByteArray := prog_11_method_54_code
def yX9_rule : MethodName := ⟨RX9, "rule", "(I)I"⟩
abbrev cX9_both : ByteArray := prog_11_method_55_code
def yX9_both : MethodName := ⟨RX9, "both", "(III)I"⟩
abbrev cX9_says : ByteArray := prog_11_method_56_code
def yX9_says : MethodName := ⟨RX9, "says", "(I)I"⟩
abbrev cX9_trialOf : ByteArray := prog_11_method_57_code
def yX9_trialOf : MethodName := ⟨RX9, "trialOf", "(III)I"⟩
abbrev cX9_hasTrial : ByteArray := prog_11_method_58_code
def yX9_hasTrial : MethodName := ⟨RX9, "hasTrial", "(III)Z"⟩
abbrev cX9_trial : ByteArray := prog_11_method_59_code
def yX9_trial : MethodName := ⟨RX9, "trial", "(III)I"⟩
abbrev cX9_order : ByteArray := prog_11_method_60_code
def yX9_order : MethodName := ⟨RX9, "order", "(III)I"⟩
abbrev cX9_isShip : ByteArray := prog_11_method_61_code
def yX9_isShip : MethodName := ⟨RX9, "isShip", "(I)Z"⟩
abbrev cX9_goesTo : ByteArray := prog_11_method_62_code
def yX9_goesTo : MethodName := ⟨RX9, "goesTo", "(II)V"⟩
abbrev cX9_maySail : ByteArray := prog_11_method_63_code
def yX9_maySail : MethodName := ⟨RX9, "maySail", "(I)Z"⟩
abbrev cX9_sail : ByteArray := prog_11_method_64_code
def yX9_sail : MethodName := ⟨RX9, "sail", "(IIII)I"⟩
abbrev cX9_carried : ByteArray := prog_11_method_65_code
def yX9_carried : MethodName := ⟨RX9, "carried", "(III)I"⟩
abbrev cX9_isShown : ByteArray := prog_11_method_66_code
def yX9_isShown : MethodName := ⟨RX9, "isShown", "(I)Z"⟩
abbrev cX9_sight : ByteArray := prog_11_method_67_code
def yX9_sight : MethodName := ⟨RX9, "sight", "(IIIII)I"⟩
abbrev cX9_work : ByteArray := prog_11_method_68_code
def yX9_work : MethodName := ⟨RX9, "work", "(II)I"⟩
abbrev cX9_told : ByteArray := prog_11_method_69_code
def yX9_told : MethodName := ⟨RX9, "told", "(III)I"⟩
abbrev cX9_back : ByteArray := prog_11_method_70_code
def yX9_back : MethodName := ⟨RX9, "back", "(IIII)I"⟩
abbrev cX9_state : ByteArray := prog_11_method_71_code
def yX9_state : MethodName := ⟨RX9, "state", "(I)I"⟩
abbrev cX9_doubt : ByteArray := prog_11_method_72_code
def yX9_doubt : MethodName := ⟨RX9, "doubt", "(I)I"⟩
abbrev cX9_secondOf : ByteArray := prog_11_method_73_code
def yX9_secondOf : MethodName := ⟨RX9, "secondOf", "(I)I"⟩
abbrev cX9_isWay : ByteArray := prog_11_method_74_code
def yX9_isWay : MethodName := ⟨RX9, "isWay", "(I)Z"⟩
abbrev cX9_deal : ByteArray := prog_11_method_75_code
def yX9_deal : MethodName := ⟨RX9, "deal", "(III)I"⟩
abbrev cX9_dealt : ByteArray := prog_11_method_76_code
def yX9_dealt : MethodName := ⟨RX9, "dealt", "(I)I"⟩
abbrev cX9_lend : ByteArray := prog_11_method_77_code
def yX9_lend : MethodName := ⟨RX9, "lend", "(II)I"⟩
abbrev cX9_home : ByteArray := prog_11_method_78_code
def yX9_home : MethodName := ⟨RX9, "home", "(I)I"⟩
abbrev cX9_holder : ByteArray := prog_11_method_79_code
def yX9_holder : MethodName := ⟨RX9, "holder", "(II)I"⟩
abbrev cX9_away : ByteArray := prog_11_method_80_code
def yX9_away : MethodName := ⟨RX9, "away", "(I)I"⟩
abbrev cX9_count : ByteArray := prog_11_method_81_code
def yX9_count : MethodName := ⟨RX9, "count", "(I)I"⟩
abbrev vwCl : List vw_C := [(RX0, TX0, 9), (RX1, TX1, 15), (RX2, TX2, 6), (RX3, TX3, 4), (RX4, TX4, 4), (RX5, TX5, 11), (RX6, TX6, 8), (RX7, TX7, 4), (RX8, TX8, 14), (RX9, TX9, 68)]
/-- the words that a method may use: those of the tables that are kept over calls -/
def tb : List Cond := lw_tbl.filter goodWord
theorem tb_in {w : Cond} (h : w ∈ tb) : w ∈ lw_tbl := (List.mem_filter.mp h).1
theorem gW {ws : List Cond} (h : ∀ w ∈ ws, w ∈ tb) : GoodIn tb ws := fun w hw => ⟨h w hw, good_of_word (List.mem_filter.mp (h w hw)).2⟩
theorem tb_t {w : Cond} (i : Nat) (h : tables_1[i]? = some w) (hg : goodWord w = true) : w ∈ tb := List.mem_filter.mpr ⟨List.mem_append_right _ (List.mem_of_getElem? h), hg⟩
theorem tb_s {w : Cond} (i : Nat) (h : (k2_sels lw_privs)[i]? = some w) (hg : goodWord w = true) : w ∈ tb := List.mem_filter.mpr ⟨List.mem_append_left _ (List.mem_of_getElem? h), hg⟩
theorem lw_t {w : Cond} (i : Nat) (h : tables_1[i]? = some w) : w ∈ lw_tbl := List.mem_append_right _ (List.mem_of_getElem? h)
theorem tb_r {ws : List Cond} (ps : List Nat) (hp : ws = ps.filterMap (fun i => tables_1[i]?)) (hg : ws.all goodWord = true) : ∀ w ∈ ws, w ∈ tb := by
  intro w hw
  have h1 := List.all_eq_true.mp hg w hw
  rw [hp] at hw
  obtain ⟨i, -, hi⟩ := List.mem_filterMap.mp hw
  exact tb_t i hi h1
theorem iX0 : ∀ w ∈ wsX00, w ∈ tb := tb_r [202, 204, 206, 208, 210, 212, 214, 216, 218] (by decide +kernel) (by decide +kernel)
theorem iX1 : ∀ w ∈ wsX10, w ∈ tb := tb_r [98, 100, 102, 104, 106, 108, 110, 112, 114, 116, 118, 120, 122, 124, 126] (by decide +kernel) (by decide +kernel)
theorem iX2 : ∀ w ∈ wsX20, w ∈ tb := tb_r [41, 43, 45, 47, 49, 51] (by decide +kernel) (by decide +kernel)
theorem iX3 : ∀ w ∈ wsX30, w ∈ tb := tb_r [68, 70, 72, 74] (by decide +kernel) (by decide +kernel)
theorem iX4 : ∀ w ∈ wsX40, w ∈ tb := tb_r [147, 149, 151, 153] (by decide +kernel) (by decide +kernel)
theorem iX5 : ∀ w ∈ wsX50, w ∈ tb := tb_r [249, 251, 253, 255, 257, 259, 261, 263, 265, 267, 269] (by decide +kernel) (by decide +kernel)
theorem iX6 : ∀ w ∈ wsX60, w ∈ tb := tb_r [166, 168, 170, 172, 174, 176, 178, 180] (by decide +kernel) (by decide +kernel)
theorem iX7 : ∀ w ∈ wsX70, w ∈ tb := tb_r [352, 354, 356, 358] (by decide +kernel) (by decide +kernel)
theorem iX8 : ∀ w ∈ wsX80, w ∈ tb := tb_r [286, 288, 290, 292, 294, 296, 298, 300, 302, 304, 306, 308, 310, 312] (by decide +kernel) (by decide +kernel)
theorem iX9 : ∀ w ∈ wsX90, w ∈ tb := tb_r [1026, 1028, 1030, 1032, 1034, 1036, 1038, 1040, 1042, 1044, 1046, 1048, 1050, 1052, 1054, 1056, 1058, 1060, 1062, 1064, 1066, 1068, 1070, 1072, 1074, 1076, 1078, 1080, 1082, 1084, 1086, 1088, 1090, 1092, 1094, 1096, 1098, 1100, 1102, 1104, 1106, 1108, 1110, 1112, 1114, 1116, 1118, 1120, 1122, 1124, 1126, 1128, 1130, 1132, 1134, 1136, 1138, 1140, 1142, 1144, 1146, 1148, 1150, 1152, 1154, 1156, 1158, 1160] (by decide +kernel) (by decide +kernel)
end
section
/-! ===== the context of all contracts: classes and array classes (E 0 int, E 1 boolean, E 2 byte, E 3 Watch, E 4 Ship), links between nest mates, strings (E 5, E 6, E 7) ===== -/
abbrev TY (E : Nat → Nat) : List (ClassId × FieldType) := [(E 0, .int), (E 1, .boolean), (E 2, .byte), (E 3, .object "SeaWatches$Watch"), (E 4, .object "SeaWatches$Ship")]
def nestW : List Cond := [.methodLinkNest RX8 36 yX2_init RX8, .fieldLinkNest RX8 142 "SeaWatches$Offs" "size" "I" "SeaWatches", .methodLinkNest RX8 43 yX3_init RX8, .fieldLinkNest RX8 312 "SeaWatches$Rates" "days" "[I" "SeaWatches", .fieldLinkNest RX8 318 "SeaWatches$Rates" "values" "[I" "SeaWatches", .fieldLinkNest RX8 311 "SeaWatches$Rates" "size" "I" "SeaWatches", .methodLinkNest RX8 50 yX1_init RX8, .methodLinkNest RX8 57 yX6_init RX8, .methodLinkNest RX6 21 yX4_init RX8, .fieldLinkNest RX6 44 "SeaWatches$Rule" "size" "I" "SeaWatches", .fieldLinkNest RX8 327 "SeaWatches$Rule" "size" "I" "SeaWatches", .fieldLinkNest RX8 179 "SeaWatches$Tape" "size" "I" "SeaWatches", .methodLinkNest RX8 64 yX0_init RX8, .fieldLinkNest RX8 285 "SeaWatches$Dealing" "best" "[I" "SeaWatches", .fieldLinkNest RX8 275 "SeaWatches$Dealing" "listed" "I" "SeaWatches", .fieldLinkNest RX8 282 "SeaWatches$Dealing" "shared" "I" "SeaWatches", .methodLinkNest RX8 71 yX4_init RX8, .methodLinkNest RX8 83 yX5_init RX8, .fieldLinkNest RX8 220 "SeaWatches$Ship" "places" "[I" "SeaWatches", .fieldLinkNest RX8 223 "SeaWatches$Ship" "starts" "[I" "SeaWatches", .fieldLinkNest RX8 226 "SeaWatches$Ship" "goings" "[I" "SeaWatches", .fieldLinkNest RX8 229 "SeaWatches$Ship" "doubts" "[I" "SeaWatches", .fieldLinkNest RX8 368 "SeaWatches$Ship" "ends" "[I" "SeaWatches", .fieldLinkNest RX8 243 "SeaWatches$Ship" "sightDays" "[I" "SeaWatches", .fieldLinkNest RX8 236 "SeaWatches$Ship" "sights" "I" "SeaWatches", .fieldLinkNest RX8 208 "SeaWatches$Ship" "stage" "I" "SeaWatches", .fieldLinkNest RX8 262 "SeaWatches$Ship" "sailed" "I" "SeaWatches", .fieldLinkNest RX8 272 "SeaWatches$Ship" "voyage" "I" "SeaWatches", .methodLinkNest RX8 301 yX7_init RX8, .methodLinkNest RX7 24 yX8_isDay RX8, .methodLinkNest RX7 45 yX8_isWithin RX8]
def isNw : Cond → Bool
  | .fieldLinkNest .. => true
  | .methodLinkNest .. => true
  | _ => false
theorem nestW_is : ∀ w ∈ nestW, isNw w = true := by decide +kernel
theorem nestW_in : ∀ w ∈ nestW, w ∈ lw_tbl := by
  intro w hw
  have hp : nestW = ([30, 40, 57, 62, 64, 67, 79, 131, 137, 145, 146, 159, 186, 193, 197, 199, 222, 224, 229, 231, 233, 235, 237, 239, 242, 244, 246, 248, 344, 377, 438] : List Nat).filterMap (fun i => tables_1[i]?) := by decide +kernel
  rw [hp] at hw
  obtain ⟨i, -, hi⟩ := List.mem_filterMap.mp hw
  exact lw_t i hi
theorem nw_warm {w : Cond} {s U : State} (h : isNw w = true) (hW : s.WarmedH U.vm) (hZ : va_Nw w s) : va_Nw w U := by
  cases w <;> first | exact va_Nw.warmF hW hZ | exact va_Nw.warmM hW hZ | cases h
theorem nw_tab {w : Cond} (h : isNw w = true) : w.onTables = true := by
  cases w <;> first | rfl | cases h
def KX (D : va_G) (E : Nat → Nat) (U : State) : Prop := va_K D vwCl (TY E) U ∧ (∀ w ∈ nestW, va_Nw w U) ∧ (va_AO "SeaWatches$Watch" U ∧ va_AO "SeaWatches$Ship" U) ∧ vk_R RX6 26 "" (E 5) U ∧ vk_R RX8 182 "or and not abs days least most span gaps jump drift sum warm" (E 6) U ∧ vk_R RX8 184 "or and not abs off doubt days which" (E 7) U
theorem KX.warm {D : va_G} {E : Nat → Nat} {s U : State} (hW : s.WarmedH U.vm) (h : KX D E s) : KX D E U :=
  ⟨va_K.moved hW.alike h.1, fun w hw => nw_warm (nestW_is w hw) hW (h.2.1 w hw), ⟨va_AO.moved hW.alike h.2.2.1.1, va_AO.moved hW.alike h.2.2.1.2⟩, vk_R.warm hW h.2.2.2.1, vk_R.warm hW h.2.2.2.2.1, vk_R.warm hW h.2.2.2.2.2⟩
theorem KX.calling {D : va_G} {E : Nat → Nat} {U : State} (g : JFrame) (mk : MethodId) (a : Array Value) (h : KX D E U) : KX D E (U.calling g mk a) :=
  ⟨va_K.moved (u := U) (U := U.calling g mk a) (Vm.Alike.refl U.vm) h.1, fun w hw => va_Nw.same (nw_tab (nestW_is w hw)) (u := U) rfl (h.2.1 w hw), ⟨va_AO.moved (u := U) (U := U.calling g mk a) (Vm.Alike.refl U.vm) h.2.2.1.1, va_AO.moved (u := U) (U := U.calling g mk a) (Vm.Alike.refl U.vm) h.2.2.1.2⟩, vk_R.same (u := U) rfl h.2.2.2.1, vk_R.same (u := U) rfl h.2.2.2.2.1, vk_R.same (u := U) rfl h.2.2.2.2.2⟩
/-! ===== numbers ===== -/
theorem i_lt {a b : Int32} : a < b ↔ a.toInt < b.toInt := Int32.lt_iff_toInt_lt
theorem i_le {a b : Int32} : a ≤ b ↔ a.toInt ≤ b.toInt := Int32.le_iff_toInt_le
theorem i_eq {a b : Int32} : a = b ↔ a.toInt = b.toInt := Int32.toInt_inj.symm
theorem i_lo (a : Int32) : -2147483648 ≤ a.toInt := by have := Int32.le_toInt a; simpa using this
theorem i_hi (a : Int32) : a.toInt ≤ 2147483647 := by have := Int32.toInt_lt a; have : a.toInt < 2147483648 := by simpa using this
                                                      omega
theorem i_bmod {x : Int} (h1 : -2147483648 ≤ x) (h2 : x ≤ 2147483647) : x.bmod (2 ^ 32) = x := by
  rw [Int.bmod_def]
  have : ((2 ^ 32 : Nat) : Int) = 4294967296 := by decide
  rw [this]
  split <;> omega
theorem i_add {a b : Int32} (h1 : -2147483648 ≤ a.toInt + b.toInt) (h2 : a.toInt + b.toInt ≤ 2147483647) : (a + b).toInt = a.toInt + b.toInt := by
  rw [Int32.toInt_add]; exact i_bmod h1 h2
theorem i_sub {a b : Int32} (h1 : -2147483648 ≤ a.toInt - b.toInt) (h2 : a.toInt - b.toInt ≤ 2147483647) : (a - b).toInt = a.toInt - b.toInt := by
  rw [Int32.toInt_sub]; exact i_bmod h1 h2
theorem i_mul {a b : Int32} (h1 : -2147483648 ≤ a.toInt * b.toInt) (h2 : a.toInt * b.toInt ≤ 2147483647) : (a * b).toInt = a.toInt * b.toInt := by
  rw [Int32.toInt_mul]; exact i_bmod h1 h2
theorem i_clamp0 {x : Int32} (h : 0 ≤ x.toInt) : (x.toNatClampNeg : Int) = x.toInt := by
  have h2 : x.toNatClampNeg = x.toInt.toNat := rfl
  rw [h2]; exact Int.toNat_of_nonneg h
theorem i_neg {a : Int32} (h : -2147483647 ≤ a.toInt) : (-a).toInt = -a.toInt := by
  have h2 := i_hi a
  rw [Int32.toInt_neg]; exact i_bmod (by omega) (by omega)
theorem fill_step {f : Nat → Int32} {i j : Int32} {v : Int32} (h0 : 0 ≤ i.toInt) (hi : j.toInt = i.toInt + 1) (h : ∀ k : Nat, (k : Int) < i.toInt → f k = v) : ∀ k : Nat, (k : Int) < j.toInt → upd f i.toNatClampNeg v k = v := by
  intro k hk
  have hc := i_clamp0 h0
  unfold upd
  split
  · rfl
  · exact h k (by omega)
theorem g_add {a b : Int32} {x y : Int} (ha : a.toInt = x) (hb : b.toInt = y) (h1 : -2147483648 ≤ x + y) (h2 : x + y ≤ 2147483647) : (a + b).toInt = x + y := by subst ha; subst hb; exact i_add h1 h2
theorem g_sub {a b : Int32} {x y : Int} (ha : a.toInt = x) (hb : b.toInt = y) (h1 : -2147483648 ≤ x - y) (h2 : x - y ≤ 2147483647) : (a - b).toInt = x - y := by subst ha; subst hb; exact i_sub h1 h2
theorem g_mul {a b : Int32} {x y : Int} (ha : a.toInt = x) (hb : b.toInt = y) (h1 : -2147483648 ≤ x * y) (h2 : x * y ≤ 2147483647) : (a * b).toInt = x * y := by subst ha; subst hb; exact i_mul h1 h2
theorem g_lt {a b : Int32} {x y : Int} (ha : a.toInt = x) (hb : b.toInt = y) : a < b ↔ x < y := by subst ha; subst hb; exact i_lt
theorem g_le {a b : Int32} {x y : Int} (ha : a.toInt = x) (hb : b.toInt = y) : a ≤ b ↔ x ≤ y := by subst ha; subst hb; exact i_le
theorem g_eq {a b : Int32} {x y : Int} (ha : a.toInt = x) (hb : b.toInt = y) : a = b ↔ x = y := by subst ha; subst hb; exact i_eq
theorem g_in {a : Int32} {x : Int} {n : Nat} (ha : a.toInt = x) (h1 : 0 ≤ x) (h2 : x < n) : vp_in a n := by subst ha; exact vp_in_iff.mpr ⟨h1, h2⟩
theorem i_in {x : Int32} {n : Nat} (h1 : 0 ≤ x.toInt) (h2 : x.toInt < n) : vp_in x n := vp_in_iff.mpr ⟨h1, h2⟩
theorem i_clamp {x : Int32} (h : 0 ≤ x.toInt) : (x.toNatClampNeg : Int) = x.toInt := by
  have h2 : x.toNatClampNeg = x.toInt.toNat := rfl
  rw [h2]; exact Int.toNat_of_nonneg h
/-! ===== methods: their words, room, contracts ===== -/
abbrev wl (y : MethodName) (b : ByteArray) (n : Nat) (r : Option FieldType) : List Cond := Cond.code y b n r :: tb
def RM (d mc ms : Nat) : Room := { frames := d, cells := mc, slots := ms, locals := 40 * d }
theorem gC {y : MethodName} {b : ByteArray} {n : Nat} {r : Option FieldType} (h : Cond.code y b n r ∈ tb) : GoodIn tb (wl y b n r) := gW (fun w hw => (List.mem_cons.mp hw).elim (fun e => by rw [e]; exact h) id)
def yOk (y : MethodName) (n : Nat) : Prop := y.cls ≠ "java/lang/invoke/MethodHandle" ∧ y.cls ≠ "java/lang/invoke/VarHandle" ∧ (parseMethodDescriptor y.desc).map (fun d => d.parameters.length) = some n
/-- a method that only reads: its answer, the heap as it was -/
def rd_Q (post : Int32 → Prop) : Array Value → State → Outcome → State → Prop := fun _ st oc t => ∃ r : Int32, oc = .returned (some (.int r)) ∧ post r ∧ t.heap = st.heap
/-- .. and answers null -/
def rn_Q : Array Value → State → Outcome → State → Prop := fun _ st oc t => oc = .returned (some .null) ∧ t.heap = st.heap
abbrev rd_P (D : va_G) (E : Nat → Nat) (av : List Value) (wc : va_W) : Array Value → State → Prop := va_Pc av (fun U => va_P D vwCl wc U.heap ∧ KX D E U)
abbrev mu_P (D : va_G) (E : Nat → Nat) (av : List Value) (wc : va_W) (sz : Nat) : Array Value → State → Prop := va_Pc av (fun U => U.heap.size = sz ∧ va_P D vwCl wc U.heap ∧ KX D E U ∧ va_D (fun _ => True) wc)
/-- what stands behind a method that writes -/
abbrev mu_B {S : Type} (D : va_G) (A : Nat → Prop) (w1 : S → va_W) : S → State → Prop := fun u t => va_P D vwCl (w1 u) t.heap ∧ va_D A (w1 u)
section CALLS
variable {p : Program} {l : Launch} {e : Env} {R : Room} {s : State} {m : MethodId} {args : Array Value} {below : List Frame} {meth : Method} {c : Code} {H : Heap} {locs : List Loc} {cells slots : Nat} {Q : State → Prop}
variable {cc : ByteArray} {pc : Nat} {ls : Array Slot} {rest st : List Value} {D : va_G} {E : Nat → Nat}
theorem W_top {x y : Value} (h : x = y) (k : W p l e R s m args below meth c H locs cells slots Q (F0 m pc ls (y :: rest))) : W p l e R s m args below meth c H locs cells slots Q (F0 m pc ls (x :: rest)) := by rw [h]; exact k
theorem rd_call {post : Int32 → Prop} {a : Array Value} (hr : CallRun p l e R s m args below meth c H locs cells slots 0 0 (F0 m pc ls st) rest (rd_Q post a) (fun _ => False))
    (kk : ∀ r : Int32, post r → W p l e R s m args below meth c H locs cells slots Q (F0 m (pc + 3) ls (.int r :: rest))) : W p l e R s m args below meth c H locs cells slots Q (F0 m pc ls st) := by
  intro T hT X
  obtain ⟨v, st₀, t, T', L, h0, X', hL, e1, ⟨r, hv, hp, hh⟩, st⟩ := hr T hT X
  cases hv
  obtain ⟨t2, a1, b1⟩ := kk r hp T' (by rw [e1, hh, h0]) (Stand.forget X' (fun q h => (hL q h).elim))
  exact ⟨t2, st t2 a1, b1⟩
theorem rn_call {a : Array Value} (hr : CallRun p l e R s m args below meth c H locs cells slots 0 0 (F0 m pc ls st) rest (rn_Q a) (fun _ => False))
    (kk : W p l e R s m args below meth c H locs cells slots Q (F0 m (pc + 3) ls (.null :: rest))) : W p l e R s m args below meth c H locs cells slots Q (F0 m pc ls st) := by
  intro T hT X
  obtain ⟨v, st₀, t, T', L, h0, X', hL, e1, ⟨hv, hh⟩, st⟩ := hr T hT X
  cases hv
  obtain ⟨t2, a1, b1⟩ := kk T' (by rw [e1, hh, h0]) (Stand.forget X' (fun q h => (hL q h).elim))
  exact ⟨t2, st t2 a1, b1⟩
theorem l_room {st : List Value} (h : (st.map fun v => v.category).sum ≤ 8) : 2 * (F0 m pc ls rest).monitorRoom + (st.map fun v => v.category).sum ≤ 8 := lv_room h
theorem prV {y : MethodName} {b : Nat} {As : List Value} {wc : va_W} (hP : va_P D vwCl wc H) (hK : KX D E s) {ci : Nat} {q : vw_C} {fs : List Value} (hc : vwCl[ci]? = some q) (hq : q.1 = y.cls) (q0 : Nat) (he : wc[q0]? = some (b, .inr (ci, fs))) : PreV s H y.cls b (rd_P D E (.ref b :: As) wc) As :=
  ⟨fun a U g mk z => ⟨z.1, z.2.1, z.2.2.calling g mk a⟩, by rw [← hq]; exact va_recv hK.1 hP hc he, fun U hU hW => ⟨rfl, by rw [hU]; exact hP, hK.warm hW⟩⟩
theorem prS {As : List Value} {wc : va_W} (hP : va_P D vwCl wc H) (hK : KX D E s) : PreS s H (rd_P D E As wc) As :=
  ⟨fun a U g mk z => ⟨z.1, z.2.1, z.2.2.calling g mk a⟩, fun U hU hW => ⟨rfl, by rw [hU]; exact hP, hK.warm hW⟩⟩
theorem pmV {y : MethodName} {b : Nat} {As : List Value} {wc : va_W} {A0 : Nat → Prop} (hP : va_P D vwCl wc H) (hD : va_D A0 wc) (hK : KX D E s) {ci : Nat} {q : vw_C} {fs : List Value} (hc : vwCl[ci]? = some q) (hq : q.1 = y.cls) (q0 : Nat) (he : wc[q0]? = some (b, .inr (ci, fs))) : PreV s H y.cls b (mu_P D E (.ref b :: As) wc H.size) As :=
  ⟨fun a U g mk z => ⟨z.1, z.2.1, z.2.2.1, z.2.2.2.1.calling g mk a, z.2.2.2.2⟩, by rw [← hq]; exact va_recv hK.1 hP hc he, fun U hU hW => ⟨rfl, by rw [hU], by rw [hU]; exact hP, hK.warm hW, hD.weaken (fun _ _ _ _ => trivial)⟩⟩
theorem pmS {As : List Value} {wc : va_W} {A0 : Nat → Prop} (hP : va_P D vwCl wc H) (hD : va_D A0 wc) (hK : KX D E s) : PreS s H (mu_P D E As wc H.size) As :=
  ⟨fun a U g mk z => ⟨z.1, z.2.1, z.2.2.1, z.2.2.2.1.calling g mk a, z.2.2.2.2⟩, fun U hU hW => ⟨rfl, by rw [hU], by rw [hU]; exact hP, hK.warm hW, hD.weaken (fun _ _ _ _ => trivial)⟩⟩
variable {nL n idx d mc ms maxL : Nat} {own : String} {y : MethodName} {bytes : ByteArray} {ret : Option FieldType}
theorem cB (htb : ∀ w ∈ tb, w.before args s = true) (hy : yOk y n) (k1 : Cond.methodLink own idx y ∈ tb) (k4 : Cond.initialized y.cls ∈ tb) (k5 : Cond.code y bytes maxL ret ∈ tb) (hR : d + 1 ≤ R.frames ∧ 8 + (maxL + 11) + 40 * d ≤ R.locals) : CallB R s args own idx y bytes maxL ret (wl y bytes maxL ret) (RM d mc ms) mc ms n :=
  callB_of n htb (gC k5) rfl rfl rfl (htb _ k4) (htb _ k1) hy hR
theorem cN {host : String} (htb : ∀ w ∈ tb, w.before args s = true) (hy : yOk y n) (hK : KX D E s) (k1 : Cond.methodLinkNest own idx y host ∈ nestW) (k4 : Cond.initialized y.cls ∈ tb) (k5 : Cond.code y bytes maxL ret ∈ tb) (hR : d + 1 ≤ R.frames ∧ 8 + (maxL + 11) + 40 * d ≤ R.locals) : va_CN R s args own idx y host bytes maxL ret (wl y bytes maxL ret) (RM d mc ms) mc ms n :=
  va_cnB n htb (gC k5) rfl rfl rfl (hK.2.1 _ k1) (htb _ k4) hy hR
/-- a reading method of an object -/
theorem callRV (hx : p.tables.exec = Jvm.exec) (hb : c.code = cc) (hml : c.maxLocals = nL) (hown : s.vm.findClass own = some m.cls) (htb : ∀ w ∈ tb, w.before args s = true) (hK : KX D E s)
    {b : Nat} {As : List Value} {wc : va_W} {post : Int32 → Prop} (hM : Met l y (wl y bytes maxL ret) (RM d 0 0) (rd_P D E (.ref b :: As) wc) (rd_Q post) 0 0 (fun _ => False)) (hy : yOk y n)
    (k1 : Cond.methodLink own idx y ∈ tb) (k2 : Cond.instanceMethod y ∈ tb) (k3 : Cond.selects y.cls y y ∈ tb) (k4 : Cond.initialized y.cls ∈ tb) (k5 : Cond.code y bytes maxL ret ∈ tb)
    (hR : d + 1 ≤ R.frames ∧ 8 + (maxL + 11) + 40 * d ≤ R.locals) (hf : cells ≤ R.cells ∧ slots ≤ R.slots) (hls : ls.size = nL) (hroom : (rest.map fun v => v.category).sum ≤ 8) (hn : As.length = n) (hst : st = As.reverse ++ .ref b :: rest) (hdg : decode cc pc = .ok (.invokevirtual idx, 3))
    (hP : va_P D vwCl wc H) {ci : Nat} {q : vw_C} {fs : List Value} (hc : vwCl[ci]? = some q) (hq : q.1 = y.cls) (q0 : Nat) (he : wc[q0]? = some (b, .inr (ci, fs)))
    (kk : ∀ r : Int32, post r → W p l e R s m args below meth c H locs cells slots Q (F0 m (pc + 3) ls (.int r :: rest))) : W p l e R s m args below meth c H locs cells slots Q (F0 m pc ls st) :=
  rd_call (W.runV (As := As) (rest := rest) (b := b) (C := y.cls) ⟨hx, hb, hml, hown, htb⟩ hM ⟨cB htb hy k1 k4 k5 hR, htb _ k2, htb _ k3⟩ (prV hP hK hc hq q0 he) rfl hn hls hst (l_room hroom) hdg hf) kk
theorem callRS (hx : p.tables.exec = Jvm.exec) (hb : c.code = cc) (hml : c.maxLocals = nL) (hown : s.vm.findClass own = some m.cls) (htb : ∀ w ∈ tb, w.before args s = true) (hK : KX D E s)
    {As : List Value} {wc : va_W} {post : Int32 → Prop} (hM : Met l y (wl y bytes maxL ret) (RM d 0 0) (rd_P D E As wc) (rd_Q post) 0 0 (fun _ => False)) (hy : yOk y n)
    (k1 : Cond.methodLink own idx y ∈ tb) (k2 : Cond.static y ∈ tb) (k4 : Cond.initialized y.cls ∈ tb) (k5 : Cond.code y bytes maxL ret ∈ tb)
    (hR : d + 1 ≤ R.frames ∧ 8 + (maxL + 11) + 40 * d ≤ R.locals) (hf : cells ≤ R.cells ∧ slots ≤ R.slots) (hls : ls.size = nL) (hroom : (rest.map fun v => v.category).sum ≤ 8) (hn : As.length = n) (hst : st = As.reverse ++ rest) (hdg : decode cc pc = .ok (.invokestatic idx, 3))
    (hP : va_P D vwCl wc H)
    (kk : ∀ r : Int32, post r → W p l e R s m args below meth c H locs cells slots Q (F0 m (pc + 3) ls (.int r :: rest))) : W p l e R s m args below meth c H locs cells slots Q (F0 m pc ls st) :=
  rd_call (W.runS (As := As) (rest := rest) ⟨hx, hb, hml, hown, htb⟩ hM ⟨cB htb hy k1 k4 k5 hR, htb _ k2⟩ (prS hP hK) rfl hn hls hst (l_room hroom) hdg hf) kk
theorem callNV (hx : p.tables.exec = Jvm.exec) (hb : c.code = cc) (hml : c.maxLocals = nL) (hown : s.vm.findClass own = some m.cls) (htb : ∀ w ∈ tb, w.before args s = true) (hK : KX D E s)
    {b : Nat} {As : List Value} {wc : va_W} (hM : Met l y (wl y bytes maxL ret) (RM d 0 0) (rd_P D E (.ref b :: As) wc) rn_Q 0 0 (fun _ => False)) (hy : yOk y n)
    (k1 : Cond.methodLink own idx y ∈ tb) (k2 : Cond.instanceMethod y ∈ tb) (k3 : Cond.selects y.cls y y ∈ tb) (k4 : Cond.initialized y.cls ∈ tb) (k5 : Cond.code y bytes maxL ret ∈ tb)
    (hR : d + 1 ≤ R.frames ∧ 8 + (maxL + 11) + 40 * d ≤ R.locals) (hf : cells ≤ R.cells ∧ slots ≤ R.slots) (hls : ls.size = nL) (hroom : (rest.map fun v => v.category).sum ≤ 8) (hn : As.length = n) (hst : st = As.reverse ++ .ref b :: rest) (hdg : decode cc pc = .ok (.invokevirtual idx, 3))
    (hP : va_P D vwCl wc H) {ci : Nat} {q : vw_C} {fs : List Value} (hc : vwCl[ci]? = some q) (hq : q.1 = y.cls) (q0 : Nat) (he : wc[q0]? = some (b, .inr (ci, fs)))
    (kk : W p l e R s m args below meth c H locs cells slots Q (F0 m (pc + 3) ls (.null :: rest))) : W p l e R s m args below meth c H locs cells slots Q (F0 m pc ls st) :=
  rn_call (W.runV (As := As) (rest := rest) (b := b) (C := y.cls) ⟨hx, hb, hml, hown, htb⟩ hM ⟨cB htb hy k1 k4 k5 hR, htb _ k2, htb _ k3⟩ (prV hP hK hc hq q0 he) rfl hn hls hst (l_room hroom) hdg hf) kk
/-- behind a method that writes: what it left, beside the rest -/
theorem aft_i {S : Type} {A0 : Nat → Prop} {H0 : Heap} {ws wc : va_W} {post : Int32 → S → Prop} {w1 : S → va_W} {a : Array Value}
    (hr : va_Run p l e R s m args below meth c H locs cells slots mc ms (F0 m pc ls st) rest (va_Qi post (mu_B D (va_A wc H.size) w1) (va_A wc H.size) a) (va_A wc H.size))
    (hP : va_P D vwCl ws H) (hD : va_D A0 ws) (hS : va_S A0 H0 H locs) (hA : ∀ q, H0.size ≤ q → A0 q) (isC isR : List Nat) {wr : va_W} (hC : isC.map (fun i => ws[i]?) = wc.map some) (hR : isR.map (fun i => ws[i]?) = wr.map some) (hn : va_nd isR = true) (hdis : ∀ i ∈ isR, i ∉ isC)
    (kk : ∀ (r : Int32) (u : S) (H1 : Heap) (locs1 : List Loc), post r u → va_P D vwCl (wr ++ w1 u) H1 → va_D A0 (wr ++ w1 u) → va_S A0 H0 H1 locs1 → W p l e R s m args below meth c H1 locs1 (cells + mc) (slots + ms) Q (F0 m (pc + 3) ls (.int r :: rest))) : W p l e R s m args below meth c H locs cells slots Q (F0 m pc ls st) := by
  have hFc := va_free (wc := wc) hD hS hA isC hC
  refine va_calli hr hS (fun q _ h => hFc q h) hFc (fun r u t H1 locs1 ht hvm hw hB hz1 hk1 hS => ?_)
  obtain ⟨hP1, hD1⟩ := hB
  rw [ht] at hP1
  obtain ⟨hP, hD⟩ := va_join hP hD isC isR hC hR hn hdis hk1 hFc hP1 hD1
  exact kk r u H1 locs1 hw hP hD hS
theorem aft_v {S : Type} {A0 : Nat → Prop} {H0 : Heap} {ws wc : va_W} {post : S → Prop} {w1 : S → va_W} {a : Array Value}
    (hr : va_Run p l e R s m args below meth c H locs cells slots mc ms (F0 m pc ls st) rest (va_Qv post (mu_B D (va_A wc H.size) w1) (va_A wc H.size) a) (va_A wc H.size))
    (hP : va_P D vwCl ws H) (hD : va_D A0 ws) (hS : va_S A0 H0 H locs) (hA : ∀ q, H0.size ≤ q → A0 q) (isC isR : List Nat) {wr : va_W} (hC : isC.map (fun i => ws[i]?) = wc.map some) (hR : isR.map (fun i => ws[i]?) = wr.map some) (hn : va_nd isR = true) (hdis : ∀ i ∈ isR, i ∉ isC)
    (kk : ∀ (u : S) (H1 : Heap) (locs1 : List Loc), post u → va_P D vwCl (wr ++ w1 u) H1 → va_D A0 (wr ++ w1 u) → va_S A0 H0 H1 locs1 → W p l e R s m args below meth c H1 locs1 (cells + mc) (slots + ms) Q (F0 m (pc + 3) ls rest)) : W p l e R s m args below meth c H locs cells slots Q (F0 m pc ls st) := by
  have hFc := va_free (wc := wc) hD hS hA isC hC
  refine va_callv hr hS (fun q _ h => hFc q h) hFc (fun u t H1 locs1 ht hvm hw hB hz1 hk1 hS => ?_)
  obtain ⟨hP1, hD1⟩ := hB
  rw [ht] at hP1
  obtain ⟨hP, hD⟩ := va_join hP hD isC isR hC hR hn hdis hk1 hFc hP1 hD1
  exact kk u H1 locs1 hw hP hD hS
/-- the runs of methods that write: of an object; a constructor (plain, of a nest mate) -/
theorem runMV {b : Nat} {As : List Value} {wc : va_W} {A0 : Nat → Prop} {Qc : Array Value → State → Outcome → State → Prop} (hx : p.tables.exec = Jvm.exec) (hb : c.code = cc) (hml : c.maxLocals = nL) (hown : s.vm.findClass own = some m.cls) (htb : ∀ w ∈ tb, w.before args s = true) (hK : KX D E s)
    (hM : Met l y (wl y bytes maxL ret) (RM d mc ms) (mu_P D E (.ref b :: As) wc H.size) Qc mc ms (va_A wc H.size)) (hy : yOk y n)
    (k1 : Cond.methodLink own idx y ∈ tb) (k2 : Cond.instanceMethod y ∈ tb) (k3 : Cond.selects y.cls y y ∈ tb) (k4 : Cond.initialized y.cls ∈ tb) (k5 : Cond.code y bytes maxL ret ∈ tb)
    (hR : d + 1 ≤ R.frames ∧ 8 + (maxL + 11) + 40 * d ≤ R.locals) (hf : cells + mc ≤ R.cells ∧ slots + ms ≤ R.slots) (hls : ls.size = nL) (hroom : (rest.map fun v => v.category).sum ≤ 8) (hn : As.length = n) (hst : st = As.reverse ++ .ref b :: rest) (hdg : decode cc pc = .ok (.invokevirtual idx, 3))
    (hP : va_P D vwCl wc H) (hD : va_D A0 wc) {ci : Nat} {q : vw_C} {fs : List Value} (hc : vwCl[ci]? = some q) (hq : q.1 = y.cls) (q0 : Nat) (he : wc[q0]? = some (b, .inr (ci, fs))) :
    va_Run p l e R s m args below meth c H locs cells slots mc ms (F0 m pc ls st) rest (Qc (Value.ref b :: As).toArray) (va_A wc H.size) :=
  va_runV (As := As) (rest := rest) (b := b) (C := y.cls) ⟨hx, hb, hml, hown, htb⟩ hM ⟨cB htb hy k1 k4 k5 hR, htb _ k2, htb _ k3⟩ (pmV hP hD hK hc hq q0 he) rfl hn hls hst (l_room hroom) hdg hf
theorem runMI {b : Nat} {As : List Value} {wc : va_W} {A0 : Nat → Prop} {Qc : Array Value → State → Outcome → State → Prop} (hx : p.tables.exec = Jvm.exec) (hb : c.code = cc) (hml : c.maxLocals = nL) (hown : s.vm.findClass own = some m.cls) (htb : ∀ w ∈ tb, w.before args s = true) (hK : KX D E s)
    (hM : Met l y (wl y bytes maxL none) (RM d mc ms) (mu_P D E (.ref b :: As) wc H.size) Qc mc ms (va_A wc H.size)) (hy : yOk y n) (hi : y.name = "<init>")
    (k1 : Cond.methodLink own idx y ∈ tb) (k2 : Cond.instanceMethod y ∈ tb) (k4 : Cond.initialized y.cls ∈ tb) (k5 : Cond.code y bytes maxL none ∈ tb)
    (hR : d + 1 ≤ R.frames ∧ 8 + (maxL + 11) + 40 * d ≤ R.locals) (hf : cells + mc ≤ R.cells ∧ slots + ms ≤ R.slots) (hls : ls.size = nL) (hroom : (rest.map fun v => v.category).sum ≤ 8) (hn : As.length = n) (hst : st = As.reverse ++ .ref b :: rest) (hdg : decode cc pc = .ok (.invokespecial idx, 3))
    (hP : va_P D vwCl wc H) (hD : va_D A0 wc) :
    va_Run p l e R s m args below meth c H locs cells slots mc ms (F0 m pc ls st) rest (Qc (Value.ref b :: As).toArray) (va_A wc H.size) :=
  va_runI (As := As) (rest := rest) (b := b) ⟨hx, hb, hml, hown, htb⟩ hM ⟨cB htb hy k1 k4 k5 hR, hi, htb _ k2⟩ (pmS hP hD hK) rfl hn hls hst (l_room hroom) hdg hf
theorem runMN {host : String} {b : Nat} {As : List Value} {wc : va_W} {A0 : Nat → Prop} {Qc : Array Value → State → Outcome → State → Prop} (hx : p.tables.exec = Jvm.exec) (hb : c.code = cc) (hml : c.maxLocals = nL) (hown : s.vm.findClass own = some m.cls) (htb : ∀ w ∈ tb, w.before args s = true) (hK : KX D E s)
    (hM : Met l y (wl y bytes maxL none) (RM d mc ms) (mu_P D E (.ref b :: As) wc H.size) Qc mc ms (va_A wc H.size)) (hy : yOk y n) (hi : y.name = "<init>")
    (k1 : Cond.methodLinkNest own idx y host ∈ nestW) (k2 : Cond.instanceMethod y ∈ tb) (k4 : Cond.initialized y.cls ∈ tb) (k5 : Cond.code y bytes maxL none ∈ tb)
    (hR : d + 1 ≤ R.frames ∧ 8 + (maxL + 11) + 40 * d ≤ R.locals) (hf : cells + mc ≤ R.cells ∧ slots + ms ≤ R.slots) (hls : ls.size = nL) (hroom : (rest.map fun v => v.category).sum ≤ 8) (hn : As.length = n) (hst : st = As.reverse ++ .ref b :: rest) (hdg : decode cc pc = .ok (.invokespecial idx, 3))
    (hP : va_P D vwCl wc H) (hD : va_D A0 wc) :
    va_Run p l e R s m args below meth c H locs cells slots mc ms (F0 m pc ls st) rest (Qc (Value.ref b :: As).toArray) (va_A wc H.size) :=
  va_runIN (As := As) (rest := rest) (b := b) ⟨hx, hb, hml, hown, htb⟩ hM ⟨cN htb hy hK k1 k4 k5 hR, hi, htb _ k2⟩ (pmS hP hD hK) rfl hn hls hst (l_room hroom) hdg hf
end CALLS
/-! ===== array classes are one for each kind; contents that agree; ===== -/
theorem ka_i {D : va_G} {cl : List vw_C} {tys : List (ClassId × FieldType)} {s : State} {cA cB : ClassId} {ty : FieldType} (hty : ∀ C, ty ≠ .object C) (h : va_K D cl (tys ++ [(cA, ty)]) s) (k : Nat) (hk : tys[k]? = some (cB, ty)) : cA = cB := by
  have h1 := (h.2 tys.length (cA, ty) (by simp)).2
  have h2 := (h.2 k (cB, ty) (by rw [List.getElem?_append_left (List.getElem?_eq_some_iff.mp hk).1]; exact hk)).2
  cases ty <;> first | exact Option.some.inj (h1.symm.trans h2) | exact absurd rfl (hty _)
theorem ka_o {D : va_G} {cl : List vw_C} {tys : List (ClassId × FieldType)} {s : State} {cA cB : ClassId} {C : String} (h : va_K D cl (tys ++ [(cA, .object C)]) s) (k : Nat) (hk : tys[k]? = some (cB, .object C)) : cA = cB := by
  obtain ⟨_, _, _, _, _, h1⟩ := (h.2 tys.length (cA, .object C) (by simp)).2
  obtain ⟨_, _, _, _, _, h2⟩ := (h.2 k (cB, .object C) (by rw [List.getElem?_append_left (List.getElem?_eq_some_iff.mp hk).1]; exact hk)).2
  exact Option.some.inj (h1.symm.trans h2)
theorem arrV_ext {cA : ClassId} {n : Nat} {f g : Nat → Value} (h : ∀ j, j < n → f j = g j) : arrV cA n f = arrV cA n g := by
  unfold arrV
  have : (fun j : Fin n => f j.val) = (fun j : Fin n => g j.val) := funext fun j => h j.val j.isLt
  rw [this]
theorem re_i {cA : ClassId} {n : Nat} {f g : Nat → Int32} (h : ∀ j, j < n → f j = g j) : vp_cell cA (n, .inl f) = vp_cell cA (n, .inl g) := by
  rw [vp_cell_i, vp_cell_i]; exact arrV_ext (fun j hj => by rw [h j hj])
theorem re_q {cA : ClassId} {n : Nat} {f g : Nat → Option Nat} (h : ∀ j, j < n → f j = g j) : vp_cell cA (n, .inr (.inr (.inr (.inr f)))) = vp_cell cA (n, .inr (.inr (.inr (.inr g)))) := by
  rw [vp_cell_q, vp_cell_q]; exact arrV_ext (fun j hj => by rw [h j hj])
theorem re_P {D : va_G} {cl : List vw_C} {ws : va_W} {H : Heap} {a : Nat} {cA : ClassId} {x y : vp_A} (h : va_P D cl ws H) (k : Nat) (hk : ws[k]? = some (a, .inl (cA, x))) (he : vp_cell cA x = vp_cell cA y) : va_P D cl (ws.set k (a, .inl (cA, y))) H := by
  have hl := (List.getElem?_eq_some_iff.mp hk).1
  intro i q hi
  by_cases hik : i = k
  · subst hik
    rw [List.getElem?_set_self hl] at hi
    cases hi
    have h1 := h i _ hk
    show H[a]? = some (vp_cell cA y)
    rw [← he]; exact h1
  · rw [List.getElem?_set_ne (Ne.symm hik)] at hi
    exact h i q hi
/-- new arrays of ints, booleans, bytes -/
theorem nw_i {N : Nat} (cA : ClassId) : vp_cell cA (N, .inl (fun _ => 0)) = arrV cA N (fun _ => defaultValue .int) := rfl
theorem nw_z {N : Nat} (cA : ClassId) : vp_cell cA (N, .inl (fun _ => 0)) = arrV cA N (fun _ => defaultValue .boolean) := rfl
theorem nw_b {N : Nat} (cA : ClassId) : vp_cell cA (N, .inl (fun _ => 0)) = arrV cA N (fun _ => defaultValue .byte) := rfl
/-! ===== the context holds at the law's start ===== -/
theorem sr_0 : Cond.stringRef RX6 26 "" ∈ lw_tbl := lw_t 156 (by decide +kernel)
theorem sr_1 : Cond.stringRef RX8 182 "or and not abs days least most span gaps jump drift sum warm" ∈ lw_tbl := lw_t 585 (by decide +kernel)
theorem sr_2 : Cond.stringRef RX8 184 "or and not abs off doubt days which" ∈ lw_tbl := lw_t 586 (by decide +kernel)
theorem ao_0 : Cond.arrayOver (.object "SeaWatches$Watch") ∈ lw_tbl := lw_t 25 (by decide +kernel)
theorem ao_1 : Cond.arrayOver (.object "SeaWatches$Ship") ∈ lw_tbl := lw_t 27 (by decide +kernel)
end
section
theorem t_m100 : ((-100) : Int32).toInt = -100 := by decide
theorem t_m5 : ((-5) : Int32).toInt = -5 := by decide
theorem t_m1 : ((-1) : Int32).toInt = -1 := by decide
theorem t_0 : (0 : Int32).toInt = 0 := by decide
theorem t_1 : (1 : Int32).toInt = 1 := by decide
theorem t_2 : (2 : Int32).toInt = 2 := by decide
theorem t_3 : (3 : Int32).toInt = 3 := by decide
theorem t_4 : (4 : Int32).toInt = 4 := by decide
theorem t_5 : (5 : Int32).toInt = 5 := by decide
theorem t_6 : (6 : Int32).toInt = 6 := by decide
theorem t_7 : (7 : Int32).toInt = 7 := by decide
theorem t_8 : (8 : Int32).toInt = 8 := by decide
theorem t_9 : (9 : Int32).toInt = 9 := by decide
theorem t_10 : (10 : Int32).toInt = 10 := by decide
theorem t_11 : (11 : Int32).toInt = 11 := by decide
theorem t_12 : (12 : Int32).toInt = 12 := by decide
theorem t_13 : (13 : Int32).toInt = 13 := by decide
theorem t_14 : (14 : Int32).toInt = 14 := by decide
theorem t_15 : (15 : Int32).toInt = 15 := by decide
theorem t_16 : (16 : Int32).toInt = 16 := by decide
theorem t_20 : (20 : Int32).toInt = 20 := by decide
theorem t_50 : (50 : Int32).toInt = 50 := by decide
theorem t_60 : (60 : Int32).toInt = 60 := by decide
theorem t_100 : (100 : Int32).toInt = 100 := by decide
theorem t_120 : (120 : Int32).toInt = 120 := by decide
theorem t_400 : (400 : Int32).toInt = 400 := by decide
theorem t_2000 : (2000 : Int32).toInt = 2000 := by decide
theorem t_9999 : (9999 : Int32).toInt = 9999 := by decide
theorem t_10000 : (10000 : Int32).toInt = 10000 := by decide
theorem t_100000 : (100000 : Int32).toInt = 100000 := by decide
theorem t_2000000 : (2000000 : Int32).toInt = 2000000 := by decide
theorem k_1 : Cond.initialized RX8 ∈ tb := tb_t 1 (by decide +kernel) (by decide)
theorem k_2 : Cond.initialized RX2 ∈ tb := tb_t 2 (by decide +kernel) (by decide)
theorem k_3 : Cond.initialized RX3 ∈ tb := tb_t 3 (by decide +kernel) (by decide)
theorem k_4 : Cond.initialized RX1 ∈ tb := tb_t 4 (by decide +kernel) (by decide)
theorem k_5 : Cond.initialized RX6 ∈ tb := tb_t 5 (by decide +kernel) (by decide)
theorem k_6 : Cond.initialized RX4 ∈ tb := tb_t 6 (by decide +kernel) (by decide)
theorem k_7 : Cond.initialized RX0 ∈ tb := tb_t 7 (by decide +kernel) (by decide)
theorem k_8 : Cond.initialized RX5 ∈ tb := tb_t 8 (by decide +kernel) (by decide)
theorem k_10 : Cond.initialized RX7 ∈ tb := tb_t 10 (by decide +kernel) (by decide)
theorem k_21 : Cond.methodLink RX8 1 objectInit ∈ tb := tb_t 21 (by decide +kernel) (by decide)
theorem k_22 : Cond.instanceMethod objectInit ∈ tb := tb_t 22 (by decide +kernel) (by decide)
theorem k_23 : Cond.code objectInit ⟨#[0xb1]⟩ 1 none ∈ tb := tb_t 23 (by decide +kernel) (by decide)
theorem k_24 : Cond.classLink RX8 19 RX7 ∈ tb := tb_t 24 (by decide +kernel) (by decide)
theorem k_26 : Cond.classLink RX8 25 RX5 ∈ tb := tb_t 26 (by decide +kernel) (by decide)
theorem k_28 : Cond.classLink RX8 34 RX2 ∈ tb := tb_t 28 (by decide +kernel) (by decide)
theorem k_29 : Cond.instantiable RX2 6 ∈ tb := tb_t 29 (by decide +kernel) (by decide)
theorem k_31 : Cond.instanceMethod yX2_init ∈ tb := tb_t 31 (by decide +kernel) (by decide)
theorem k_32 : Cond.code yX2_init cX2_init 1 none ∈ tb := tb_t 32 (by decide +kernel) (by decide)
theorem k_33 : Cond.methodLink RX2 3 objectInit ∈ tb := tb_t 33 (by decide +kernel) (by decide)
theorem k_34 : Cond.fieldLink RX2 9 "SeaWatches$Offs" "signals" "[I" ∈ tb := tb_t 34 (by decide +kernel) (by decide)
theorem k_35 : Cond.fieldLink RX2 15 "SeaWatches$Offs" "firsts" "[I" ∈ tb := tb_t 35 (by decide +kernel) (by decide)
theorem k_36 : Cond.fieldLink RX2 18 "SeaWatches$Offs" "lasts" "[I" ∈ tb := tb_t 36 (by decide +kernel) (by decide)
theorem k_37 : Cond.fieldLink RX2 21 "SeaWatches$Offs" "values" "[I" ∈ tb := tb_t 37 (by decide +kernel) (by decide)
theorem k_38 : Cond.fieldLink RX2 24 "SeaWatches$Offs" "toldOn" "[I" ∈ tb := tb_t 38 (by decide +kernel) (by decide)
theorem k_39 : Cond.fieldLink RX2 27 "SeaWatches$Offs" "size" "I" ∈ tb := tb_t 39 (by decide +kernel) (by decide)
theorem k_54 : Cond.arrayClass .int ∈ tb := tb_t 54 (by decide +kernel) (by decide)
theorem k_55 : Cond.classLink RX8 41 RX3 ∈ tb := tb_t 55 (by decide +kernel) (by decide)
theorem k_56 : Cond.instantiable RX3 4 ∈ tb := tb_t 56 (by decide +kernel) (by decide)
theorem k_58 : Cond.instanceMethod yX3_init ∈ tb := tb_t 58 (by decide +kernel) (by decide)
theorem k_59 : Cond.code yX3_init cX3_init 1 none ∈ tb := tb_t 59 (by decide +kernel) (by decide)
theorem k_60 : Cond.methodLink RX3 3 objectInit ∈ tb := tb_t 60 (by decide +kernel) (by decide)
theorem k_61 : Cond.fieldLink RX3 9 "SeaWatches$Rates" "days" "[I" ∈ tb := tb_t 61 (by decide +kernel) (by decide)
theorem k_63 : Cond.fieldLink RX3 15 "SeaWatches$Rates" "values" "[I" ∈ tb := tb_t 63 (by decide +kernel) (by decide)
theorem k_65 : Cond.fieldLink RX3 18 "SeaWatches$Rates" "sorted" "[I" ∈ tb := tb_t 65 (by decide +kernel) (by decide)
theorem k_66 : Cond.fieldLink RX3 21 "SeaWatches$Rates" "size" "I" ∈ tb := tb_t 66 (by decide +kernel) (by decide)
theorem k_77 : Cond.classLink RX8 48 RX1 ∈ tb := tb_t 77 (by decide +kernel) (by decide)
theorem k_78 : Cond.instantiable RX1 15 ∈ tb := tb_t 78 (by decide +kernel) (by decide)
theorem k_80 : Cond.instanceMethod yX1_init ∈ tb := tb_t 80 (by decide +kernel) (by decide)
theorem k_81 : Cond.code yX1_init cX1_init 1 none ∈ tb := tb_t 81 (by decide +kernel) (by decide)
theorem k_82 : Cond.methodLink RX1 3 objectInit ∈ tb := tb_t 82 (by decide +kernel) (by decide)
theorem k_92 : Cond.fieldLink RX1 9 "SeaWatches$Fit" "divisor" "J" ∈ tb := tb_t 92 (by decide +kernel) (by decide)
theorem k_95 : Cond.fieldLink RX1 15 "SeaWatches$Fit" "form" "I" ∈ tb := tb_t 95 (by decide +kernel) (by decide)
theorem k_129 : Cond.classLink RX8 55 RX6 ∈ tb := tb_t 129 (by decide +kernel) (by decide)
theorem k_130 : Cond.instantiable RX6 8 ∈ tb := tb_t 130 (by decide +kernel) (by decide)
theorem k_132 : Cond.instanceMethod yX6_init ∈ tb := tb_t 132 (by decide +kernel) (by decide)
theorem k_133 : Cond.code yX6_init cX6_init 1 none ∈ tb := tb_t 133 (by decide +kernel) (by decide)
theorem k_134 : Cond.methodLink RX6 3 objectInit ∈ tb := tb_t 134 (by decide +kernel) (by decide)
theorem k_135 : Cond.classLink RX6 19 RX4 ∈ tb := tb_t 135 (by decide +kernel) (by decide)
theorem k_136 : Cond.instantiable RX4 4 ∈ tb := tb_t 136 (by decide +kernel) (by decide)
theorem k_138 : Cond.instanceMethod yX4_init ∈ tb := tb_t 138 (by decide +kernel) (by decide)
theorem k_139 : Cond.code yX4_init cX4_init 1 none ∈ tb := tb_t 139 (by decide +kernel) (by decide)
theorem k_140 : Cond.methodLink RX4 3 objectInit ∈ tb := tb_t 140 (by decide +kernel) (by decide)
theorem k_141 : Cond.fieldLink RX4 9 "SeaWatches$Rule" "signs" "[I" ∈ tb := tb_t 141 (by decide +kernel) (by decide)
theorem k_142 : Cond.fieldLink RX4 15 "SeaWatches$Rule" "values" "[I" ∈ tb := tb_t 142 (by decide +kernel) (by decide)
theorem k_143 : Cond.fieldLink RX4 18 "SeaWatches$Rule" "stack" "[I" ∈ tb := tb_t 143 (by decide +kernel) (by decide)
theorem k_144 : Cond.fieldLink RX4 21 "SeaWatches$Rule" "size" "I" ∈ tb := tb_t 144 (by decide +kernel) (by decide)
theorem k_157 : Cond.fieldLink RX6 9 "SeaWatches$Tape" "bytes" "[I" ∈ tb := tb_t 157 (by decide +kernel) (by decide)
theorem k_158 : Cond.fieldLink RX6 15 "SeaWatches$Tape" "size" "I" ∈ tb := tb_t 158 (by decide +kernel) (by decide)
theorem k_160 : Cond.fieldLink RX6 22 "SeaWatches$Tape" "rule" "LSeaWatches$Rule;" ∈ tb := tb_t 160 (by decide +kernel) (by decide)
theorem k_161 : Cond.fieldLink RX6 28 "SeaWatches$Tape" "words" "Ljava/lang/String;" ∈ tb := tb_t 161 (by decide +kernel) (by decide)
theorem k_162 : Cond.fieldLink RX6 32 "SeaWatches$Tape" "at" "I" ∈ tb := tb_t 162 (by decide +kernel) (by decide)
theorem k_163 : Cond.fieldLink RX6 35 "SeaWatches$Tape" "word" "I" ∈ tb := tb_t 163 (by decide +kernel) (by decide)
theorem k_164 : Cond.fieldLink RX6 38 "SeaWatches$Tape" "wordAt" "I" ∈ tb := tb_t 164 (by decide +kernel) (by decide)
theorem k_165 : Cond.fieldLink RX6 41 "SeaWatches$Tape" "value" "I" ∈ tb := tb_t 165 (by decide +kernel) (by decide)
theorem k_184 : Cond.classLink RX8 62 RX0 ∈ tb := tb_t 184 (by decide +kernel) (by decide)
theorem k_185 : Cond.instantiable RX0 9 ∈ tb := tb_t 185 (by decide +kernel) (by decide)
theorem k_187 : Cond.instanceMethod yX0_init ∈ tb := tb_t 187 (by decide +kernel) (by decide)
theorem k_188 : Cond.code yX0_init cX0_init 1 none ∈ tb := tb_t 188 (by decide +kernel) (by decide)
theorem k_189 : Cond.methodLink RX0 3 objectInit ∈ tb := tb_t 189 (by decide +kernel) (by decide)
theorem k_190 : Cond.fieldLink RX0 9 "SeaWatches$Dealing" "doubts" "[I" ∈ tb := tb_t 190 (by decide +kernel) (by decide)
theorem k_191 : Cond.fieldLink RX0 15 "SeaWatches$Dealing" "way" "[I" ∈ tb := tb_t 191 (by decide +kernel) (by decide)
theorem k_192 : Cond.fieldLink RX0 18 "SeaWatches$Dealing" "best" "[I" ∈ tb := tb_t 192 (by decide +kernel) (by decide)
theorem k_194 : Cond.fieldLink RX0 21 "SeaWatches$Dealing" "voyages" "[I" ∈ tb := tb_t 194 (by decide +kernel) (by decide)
theorem k_195 : Cond.fieldLink RX0 24 "SeaWatches$Dealing" "given" "[I" ∈ tb := tb_t 195 (by decide +kernel) (by decide)
theorem k_196 : Cond.fieldLink RX0 27 "SeaWatches$Dealing" "listed" "I" ∈ tb := tb_t 196 (by decide +kernel) (by decide)
theorem k_198 : Cond.fieldLink RX0 31 "SeaWatches$Dealing" "shared" "I" ∈ tb := tb_t 198 (by decide +kernel) (by decide)
theorem k_200 : Cond.fieldLink RX0 34 "SeaWatches$Dealing" "sailing" "I" ∈ tb := tb_t 200 (by decide +kernel) (by decide)
theorem k_201 : Cond.fieldLink RX0 37 "SeaWatches$Dealing" "leastWorst" "I" ∈ tb := tb_t 201 (by decide +kernel) (by decide)
theorem k_221 : Cond.classLink RX8 69 RX4 ∈ tb := tb_t 221 (by decide +kernel) (by decide)
theorem k_223 : Cond.instantiable RX5 11 ∈ tb := tb_t 223 (by decide +kernel) (by decide)
theorem k_225 : Cond.instanceMethod yX5_init ∈ tb := tb_t 225 (by decide +kernel) (by decide)
theorem k_226 : Cond.code yX5_init cX5_init 1 none ∈ tb := tb_t 226 (by decide +kernel) (by decide)
theorem k_227 : Cond.methodLink RX5 3 objectInit ∈ tb := tb_t 227 (by decide +kernel) (by decide)
theorem k_228 : Cond.fieldLink RX5 9 "SeaWatches$Ship" "places" "[I" ∈ tb := tb_t 228 (by decide +kernel) (by decide)
theorem k_230 : Cond.fieldLink RX5 15 "SeaWatches$Ship" "starts" "[I" ∈ tb := tb_t 230 (by decide +kernel) (by decide)
theorem k_232 : Cond.fieldLink RX5 18 "SeaWatches$Ship" "goings" "[I" ∈ tb := tb_t 232 (by decide +kernel) (by decide)
theorem k_234 : Cond.fieldLink RX5 21 "SeaWatches$Ship" "doubts" "[I" ∈ tb := tb_t 234 (by decide +kernel) (by decide)
theorem k_236 : Cond.fieldLink RX5 24 "SeaWatches$Ship" "ends" "[I" ∈ tb := tb_t 236 (by decide +kernel) (by decide)
theorem k_238 : Cond.fieldLink RX5 27 "SeaWatches$Ship" "sightDays" "[I" ∈ tb := tb_t 238 (by decide +kernel) (by decide)
theorem k_240 : Cond.fieldLink RX5 30 "SeaWatches$Ship" "shown" "[I" ∈ tb := tb_t 240 (by decide +kernel) (by decide)
theorem k_241 : Cond.fieldLink RX5 33 "SeaWatches$Ship" "sights" "I" ∈ tb := tb_t 241 (by decide +kernel) (by decide)
theorem k_243 : Cond.fieldLink RX5 37 "SeaWatches$Ship" "stage" "I" ∈ tb := tb_t 243 (by decide +kernel) (by decide)
theorem k_245 : Cond.fieldLink RX5 40 "SeaWatches$Ship" "sailed" "I" ∈ tb := tb_t 245 (by decide +kernel) (by decide)
theorem k_247 : Cond.fieldLink RX5 43 "SeaWatches$Ship" "voyage" "I" ∈ tb := tb_t 247 (by decide +kernel) (by decide)
theorem k_272 : Cond.fieldLink RX8 9 "SeaWatches" "warmths" "[I" ∈ tb := tb_t 272 (by decide +kernel) (by decide)
theorem k_273 : Cond.fieldLink RX8 13 "SeaWatches" "kinds" "[I" ∈ tb := tb_t 273 (by decide +kernel) (by decide)
theorem k_274 : Cond.fieldLink RX8 16 "SeaWatches" "numbers" "[I" ∈ tb := tb_t 274 (by decide +kernel) (by decide)
theorem k_275 : Cond.fieldLink RX8 21 "SeaWatches" "watches" "[LSeaWatches$Watch;" ∈ tb := tb_t 275 (by decide +kernel) (by decide)
theorem k_276 : Cond.fieldLink RX8 27 "SeaWatches" "ships" "[LSeaWatches$Ship;" ∈ tb := tb_t 276 (by decide +kernel) (by decide)
theorem k_277 : Cond.fieldLink RX8 31 "SeaWatches" "names" "[I" ∈ tb := tb_t 277 (by decide +kernel) (by decide)
theorem k_278 : Cond.fieldLink RX8 37 "SeaWatches" "offs" "LSeaWatches$Offs;" ∈ tb := tb_t 278 (by decide +kernel) (by decide)
theorem k_279 : Cond.fieldLink RX8 44 "SeaWatches" "rates" "LSeaWatches$Rates;" ∈ tb := tb_t 279 (by decide +kernel) (by decide)
theorem k_280 : Cond.fieldLink RX8 51 "SeaWatches" "fit" "LSeaWatches$Fit;" ∈ tb := tb_t 280 (by decide +kernel) (by decide)
theorem k_281 : Cond.fieldLink RX8 58 "SeaWatches" "tape" "LSeaWatches$Tape;" ∈ tb := tb_t 281 (by decide +kernel) (by decide)
theorem k_282 : Cond.fieldLink RX8 65 "SeaWatches" "dealing" "LSeaWatches$Dealing;" ∈ tb := tb_t 282 (by decide +kernel) (by decide)
theorem k_283 : Cond.fieldLink RX8 72 "SeaWatches" "trialRule" "LSeaWatches$Rule;" ∈ tb := tb_t 283 (by decide +kernel) (by decide)
theorem k_284 : Cond.fieldLink RX8 76 "SeaWatches" "dropRule" "LSeaWatches$Rule;" ∈ tb := tb_t 284 (by decide +kernel) (by decide)
theorem k_285 : Cond.fieldLink RX8 79 "SeaWatches" "today" "I" ∈ tb := tb_t 285 (by decide +kernel) (by decide)
theorem k_323 : Cond.methodLink RX8 84 yX8_isDay ∈ tb := tb_t 323 (by decide +kernel) (by decide)
theorem k_324 : Cond.static yX8_isDay ∈ tb := tb_t 324 (by decide +kernel) (by decide)
theorem k_325 : Cond.code yX8_isDay cX8_isDay 1 (some .boolean) ∈ tb := tb_t 325 (by decide +kernel) (by decide)
theorem k_326 : Cond.methodLink RX8 88 yX8_isWithin ∈ tb := tb_t 326 (by decide +kernel) (by decide)
theorem k_327 : Cond.static yX8_isWithin ∈ tb := tb_t 327 (by decide +kernel) (by decide)
theorem k_328 : Cond.code yX8_isWithin cX8_isWithin 2 (some .boolean) ∈ tb := tb_t 328 (by decide +kernel) (by decide)
theorem k_333 : Cond.methodLink RX8 92 yX8_isPlace ∈ tb := tb_t 333 (by decide +kernel) (by decide)
theorem k_334 : Cond.static yX8_isPlace ∈ tb := tb_t 334 (by decide +kernel) (by decide)
theorem k_335 : Cond.code yX8_isPlace cX8_isPlace 1 (some .boolean) ∈ tb := tb_t 335 (by decide +kernel) (by decide)
theorem k_336 : Cond.methodLink RX8 95 yX8_fitsKind ∈ tb := tb_t 336 (by decide +kernel) (by decide)
theorem k_337 : Cond.static yX8_fitsKind ∈ tb := tb_t 337 (by decide +kernel) (by decide)
theorem k_338 : Cond.code yX8_fitsKind cX8_fitsKind 2 (some .boolean) ∈ tb := tb_t 338 (by decide +kernel) (by decide)
theorem k_339 : Cond.methodLink RX8 98 yX8_bringWatch ∈ tb := tb_t 339 (by decide +kernel) (by decide)
theorem k_341 : Cond.instanceMethod yX8_bringWatch ∈ tb := tb_t 341 (by decide +kernel) (by decide)
theorem k_342 : Cond.code yX8_bringWatch cX8_bringWatch 2 none ∈ tb := tb_t 342 (by decide +kernel) (by decide)
theorem k_343 : Cond.instantiable RX7 4 ∈ tb := tb_t 343 (by decide +kernel) (by decide)
theorem k_345 : Cond.instanceMethod yX7_init ∈ tb := tb_t 345 (by decide +kernel) (by decide)
theorem k_346 : Cond.code yX7_init cX7_init 1 none ∈ tb := tb_t 346 (by decide +kernel) (by decide)
theorem k_347 : Cond.methodLink RX7 3 objectInit ∈ tb := tb_t 347 (by decide +kernel) (by decide)
theorem k_348 : Cond.fieldLink RX7 9 "SeaWatches$Watch" "tolds" "[I" ∈ tb := tb_t 348 (by decide +kernel) (by decide)
theorem k_349 : Cond.fieldLink RX7 15 "SeaWatches$Watch" "sources" "[I" ∈ tb := tb_t 349 (by decide +kernel) (by decide)
theorem k_350 : Cond.fieldLink RX7 18 "SeaWatches$Watch" "marks" "[I" ∈ tb := tb_t 350 (by decide +kernel) (by decide)
theorem k_351 : Cond.fieldLink RX7 21 "SeaWatches$Watch" "holders" "[I" ∈ tb := tb_t 351 (by decide +kernel) (by decide)
theorem k_361 : Cond.methodLink RX8 302 yX7_becomeNew ∈ tb := tb_t 361 (by decide +kernel) (by decide)
theorem k_362 : Cond.instanceMethod yX7_becomeNew ∈ tb := tb_t 362 (by decide +kernel) (by decide)
theorem k_363 : Cond.selects RX7 yX7_becomeNew yX7_becomeNew ∈ tb := tb_t 363 (by decide +kernel) (by decide)
theorem k_364 : Cond.code yX7_becomeNew cX7_becomeNew 2 none ∈ tb := tb_t 364 (by decide +kernel) (by decide)
theorem k_369 : Cond.methodLink RX8 102 yX8_watchAt ∈ tb := tb_t 369 (by decide +kernel) (by decide)
theorem k_371 : Cond.instanceMethod yX8_watchAt ∈ tb := tb_t 371 (by decide +kernel) (by decide)
theorem k_372 : Cond.code yX8_watchAt cX8_watchAt 2 (some (.object "SeaWatches$Watch")) ∈ tb := tb_t 372 (by decide +kernel) (by decide)
theorem k_386 : Cond.constant RX8 110 (-2000000000) ∈ tb := tb_t 386 (by decide +kernel) (by decide)
theorem k_391 : Cond.methodLink RX8 111 yX8_isPast ∈ tb := tb_t 391 (by decide +kernel) (by decide)
theorem k_393 : Cond.instanceMethod yX8_isPast ∈ tb := tb_t 393 (by decide +kernel) (by decide)
theorem k_394 : Cond.code yX8_isPast cX8_isPast 2 (some .boolean) ∈ tb := tb_t 394 (by decide +kernel) (by decide)
theorem k_395 : Cond.constant RX8 114 100000 ∈ tb := tb_t 395 (by decide +kernel) (by decide)
theorem k_396 : Cond.methodLink RX8 115 yX8_lackAt ∈ tb := tb_t 396 (by decide +kernel) (by decide)
theorem k_398 : Cond.instanceMethod yX8_lackAt ∈ tb := tb_t 398 (by decide +kernel) (by decide)
theorem k_399 : Cond.code yX8_lackAt cX8_lackAt 2 (some .int) ∈ tb := tb_t 399 (by decide +kernel) (by decide)
theorem k_412 : Cond.methodLink RX8 125 yX8_isKnowledge ∈ tb := tb_t 412 (by decide +kernel) (by decide)
theorem k_413 : Cond.static yX8_isKnowledge ∈ tb := tb_t 413 (by decide +kernel) (by decide)
theorem k_414 : Cond.code yX8_isKnowledge cX8_isKnowledge 1 (some .boolean) ∈ tb := tb_t 414 (by decide +kernel) (by decide)
theorem k_447 : Cond.methodLink RX8 135 yX8_markOn ∈ tb := tb_t 447 (by decide +kernel) (by decide)
theorem k_449 : Cond.instanceMethod yX8_markOn ∈ tb := tb_t 449 (by decide +kernel) (by decide)
theorem k_450 : Cond.code yX8_markOn cX8_markOn 5 (some .int) ∈ tb := tb_t 450 (by decide +kernel) (by decide)
theorem k_471 : Cond.methodLink RX8 145 yX2_add ∈ tb := tb_t 471 (by decide +kernel) (by decide)
theorem k_472 : Cond.instanceMethod yX2_add ∈ tb := tb_t 472 (by decide +kernel) (by decide)
theorem k_473 : Cond.selects RX2 yX2_add yX2_add ∈ tb := tb_t 473 (by decide +kernel) (by decide)
theorem k_474 : Cond.code yX2_add cX2_add 6 none ∈ tb := tb_t 474 (by decide +kernel) (by decide)
theorem k_479 : Cond.methodLink RX8 149 yX8_isStretch ∈ tb := tb_t 479 (by decide +kernel) (by decide)
theorem k_480 : Cond.static yX8_isStretch ∈ tb := tb_t 480 (by decide +kernel) (by decide)
theorem k_481 : Cond.code yX8_isStretch cX8_isStretch 2 (some .boolean) ∈ tb := tb_t 481 (by decide +kernel) (by decide)
theorem k_486 : Cond.methodLink RX8 152 yX8_refusalOfStretch ∈ tb := tb_t 486 (by decide +kernel) (by decide)
theorem k_488 : Cond.instanceMethod yX8_refusalOfStretch ∈ tb := tb_t 488 (by decide +kernel) (by decide)
theorem k_489 : Cond.code yX8_refusalOfStretch cX8_refusalOfStretch 4 (some .int) ∈ tb := tb_t 489 (by decide +kernel) (by decide)
theorem k_577 : Cond.methodLink RX8 180 yX6_add ∈ tb := tb_t 577 (by decide +kernel) (by decide)
theorem k_578 : Cond.instanceMethod yX6_add ∈ tb := tb_t 578 (by decide +kernel) (by decide)
theorem k_579 : Cond.selects RX6 yX6_add yX6_add ∈ tb := tb_t 579 (by decide +kernel) (by decide)
theorem k_580 : Cond.code yX6_add cX6_add 2 none ∈ tb := tb_t 580 (by decide +kernel) (by decide)
theorem k_587 : Cond.methodLink RX8 186 yX6_readAsRule ∈ tb := tb_t 587 (by decide +kernel) (by decide)
theorem k_588 : Cond.instanceMethod yX6_readAsRule ∈ tb := tb_t 588 (by decide +kernel) (by decide)
theorem k_589 : Cond.selects RX6 yX6_readAsRule yX6_readAsRule ∈ tb := tb_t 589 (by decide +kernel) (by decide)
theorem k_590 : Cond.code yX6_readAsRule cX6_readAsRule 3 (some .int) ∈ tb := tb_t 590 (by decide +kernel) (by decide)
theorem k_591 : Cond.methodLink RX6 45 yX6_goOn ∈ tb := tb_t 591 (by decide +kernel) (by decide)
theorem k_593 : Cond.instanceMethod yX6_goOn ∈ tb := tb_t 593 (by decide +kernel) (by decide)
theorem k_594 : Cond.code yX6_goOn cX6_goOn 1 none ∈ tb := tb_t 594 (by decide +kernel) (by decide)
theorem k_668 : Cond.methodLink RX6 48 yX6_readEither ∈ tb := tb_t 668 (by decide +kernel) (by decide)
theorem k_670 : Cond.instanceMethod yX6_readEither ∈ tb := tb_t 670 (by decide +kernel) (by decide)
theorem k_671 : Cond.code yX6_readEither cX6_readEither 4 (some .boolean) ∈ tb := tb_t 671 (by decide +kernel) (by decide)
theorem k_672 : Cond.methodLink RX6 52 yX6_readBoth ∈ tb := tb_t 672 (by decide +kernel) (by decide)
theorem k_674 : Cond.instanceMethod yX6_readBoth ∈ tb := tb_t 674 (by decide +kernel) (by decide)
theorem k_675 : Cond.code yX6_readBoth cX6_readBoth 4 (some .boolean) ∈ tb := tb_t 675 (by decide +kernel) (by decide)
theorem k_676 : Cond.methodLink RX6 59 yX6_readNegation ∈ tb := tb_t 676 (by decide +kernel) (by decide)
theorem k_678 : Cond.instanceMethod yX6_readNegation ∈ tb := tb_t 678 (by decide +kernel) (by decide)
theorem k_679 : Cond.code yX6_readNegation cX6_readNegation 3 (some .boolean) ∈ tb := tb_t 679 (by decide +kernel) (by decide)
theorem k_680 : Cond.methodLink RX6 62 yX6_readComparison ∈ tb := tb_t 680 (by decide +kernel) (by decide)
theorem k_682 : Cond.instanceMethod yX6_readComparison ∈ tb := tb_t 682 (by decide +kernel) (by decide)
theorem k_683 : Cond.code yX6_readComparison cX6_readComparison 4 (some .boolean) ∈ tb := tb_t 683 (by decide +kernel) (by decide)
theorem k_684 : Cond.methodLink RX6 65 yX6_readSum ∈ tb := tb_t 684 (by decide +kernel) (by decide)
theorem k_686 : Cond.instanceMethod yX6_readSum ∈ tb := tb_t 686 (by decide +kernel) (by decide)
theorem k_687 : Cond.code yX6_readSum cX6_readSum 5 (some .boolean) ∈ tb := tb_t 687 (by decide +kernel) (by decide)
theorem k_688 : Cond.methodLink RX6 68 yX6_readProduct ∈ tb := tb_t 688 (by decide +kernel) (by decide)
theorem k_690 : Cond.instanceMethod yX6_readProduct ∈ tb := tb_t 690 (by decide +kernel) (by decide)
theorem k_691 : Cond.code yX6_readProduct cX6_readProduct 5 (some .boolean) ∈ tb := tb_t 691 (by decide +kernel) (by decide)
theorem k_692 : Cond.methodLink RX6 71 yX6_readOperand ∈ tb := tb_t 692 (by decide +kernel) (by decide)
theorem k_694 : Cond.instanceMethod yX6_readOperand ∈ tb := tb_t 694 (by decide +kernel) (by decide)
theorem k_695 : Cond.code yX6_readOperand cX6_readOperand 4 (some .boolean) ∈ tb := tb_t 695 (by decide +kernel) (by decide)
theorem k_773 : Cond.methodLink RX8 202 yX8_isShip ∈ tb := tb_t 773 (by decide +kernel) (by decide)
theorem k_774 : Cond.static yX8_isShip ∈ tb := tb_t 774 (by decide +kernel) (by decide)
theorem k_775 : Cond.code yX8_isShip cX8_isShip 1 (some .boolean) ∈ tb := tb_t 775 (by decide +kernel) (by decide)
theorem k_776 : Cond.methodLink RX8 205 yX8_firstLack ∈ tb := tb_t 776 (by decide +kernel) (by decide)
theorem k_778 : Cond.instanceMethod yX8_firstLack ∈ tb := tb_t 778 (by decide +kernel) (by decide)
theorem k_779 : Cond.code yX8_firstLack cX8_firstLack 4 (some .int) ∈ tb := tb_t 779 (by decide +kernel) (by decide)
theorem k_816 : Cond.constant RX8 232 2000000 ∈ tb := tb_t 816 (by decide +kernel) (by decide)
theorem k_817 : Cond.methodLink RX8 233 yX5_mayBeSighted ∈ tb := tb_t 817 (by decide +kernel) (by decide)
theorem k_818 : Cond.instanceMethod yX5_mayBeSighted ∈ tb := tb_t 818 (by decide +kernel) (by decide)
theorem k_819 : Cond.selects RX5 yX5_mayBeSighted yX5_mayBeSighted ∈ tb := tb_t 819 (by decide +kernel) (by decide)
theorem k_820 : Cond.code yX5_mayBeSighted cX5_mayBeSighted 2 (some .boolean) ∈ tb := tb_t 820 (by decide +kernel) (by decide)
theorem k_890 : Cond.methodLink RX8 278 yX0_add ∈ tb := tb_t 890 (by decide +kernel) (by decide)
theorem k_891 : Cond.instanceMethod yX0_add ∈ tb := tb_t 891 (by decide +kernel) (by decide)
theorem k_892 : Cond.selects RX0 yX0_add yX0_add ∈ tb := tb_t 892 (by decide +kernel) (by decide)
theorem k_893 : Cond.code yX0_add cX0_add 2 none ∈ tb := tb_t 893 (by decide +kernel) (by decide)
theorem k_945 : Cond.methodLink RX8 295 yX8_placesWith ∈ tb := tb_t 945 (by decide +kernel) (by decide)
theorem k_947 : Cond.instanceMethod yX8_placesWith ∈ tb := tb_t 947 (by decide +kernel) (by decide)
theorem k_948 : Cond.code yX8_placesWith cX8_placesWith 4 (some .int) ∈ tb := tb_t 948 (by decide +kernel) (by decide)
theorem k_949 : Cond.methodLink RX8 298 yX8_shipsAtSea ∈ tb := tb_t 949 (by decide +kernel) (by decide)
theorem k_951 : Cond.instanceMethod yX8_shipsAtSea ∈ tb := tb_t 951 (by decide +kernel) (by decide)
theorem k_952 : Cond.code yX8_shipsAtSea cX8_shipsAtSea 3 (some .int) ∈ tb := tb_t 952 (by decide +kernel) (by decide)
theorem ks_0 : Cond.selects RX8 yX8_bringWatch yX8_bringWatch ∈ tb := tb_s 0 (by decide +kernel) (by decide)
theorem ks_1 : Cond.selects RX8 yX8_watchAt yX8_watchAt ∈ tb := tb_s 1 (by decide +kernel) (by decide)
theorem ks_2 : Cond.selects RX8 yX8_isPast yX8_isPast ∈ tb := tb_s 2 (by decide +kernel) (by decide)
theorem ks_3 : Cond.selects RX8 yX8_lackAt yX8_lackAt ∈ tb := tb_s 3 (by decide +kernel) (by decide)
theorem ks_4 : Cond.selects RX8 yX8_markOn yX8_markOn ∈ tb := tb_s 4 (by decide +kernel) (by decide)
theorem ks_5 : Cond.selects RX8 yX8_refusalOfStretch yX8_refusalOfStretch ∈ tb := tb_s 5 (by decide +kernel) (by decide)
theorem ks_11 : Cond.selects RX6 yX6_goOn yX6_goOn ∈ tb := tb_s 11 (by decide +kernel) (by decide)
theorem ks_16 : Cond.selects RX6 yX6_readEither yX6_readEither ∈ tb := tb_s 16 (by decide +kernel) (by decide)
theorem ks_17 : Cond.selects RX6 yX6_readBoth yX6_readBoth ∈ tb := tb_s 17 (by decide +kernel) (by decide)
theorem ks_18 : Cond.selects RX6 yX6_readNegation yX6_readNegation ∈ tb := tb_s 18 (by decide +kernel) (by decide)
theorem ks_19 : Cond.selects RX6 yX6_readComparison yX6_readComparison ∈ tb := tb_s 19 (by decide +kernel) (by decide)
theorem ks_20 : Cond.selects RX6 yX6_readSum yX6_readSum ∈ tb := tb_s 20 (by decide +kernel) (by decide)
theorem ks_21 : Cond.selects RX6 yX6_readProduct yX6_readProduct ∈ tb := tb_s 21 (by decide +kernel) (by decide)
theorem ks_22 : Cond.selects RX6 yX6_readOperand yX6_readOperand ∈ tb := tb_s 22 (by decide +kernel) (by decide)
theorem ks_27 : Cond.selects RX8 yX8_firstLack yX8_firstLack ∈ tb := tb_s 27 (by decide +kernel) (by decide)
theorem ks_37 : Cond.selects RX8 yX8_placesWith yX8_placesWith ∈ tb := tb_s 37 (by decide +kernel) (by decide)
theorem ks_38 : Cond.selects RX8 yX8_shipsAtSea yX8_shipsAtSea ∈ tb := tb_s 38 (by decide +kernel) (by decide)
theorem ok_X0_add : yOk yX0_add 1 := ⟨by decide +kernel, by decide +kernel, by decide +kernel⟩
theorem ok_X0_init : yOk yX0_init 0 := ⟨by decide +kernel, by decide +kernel, by decide +kernel⟩
theorem ok_X1_init : yOk yX1_init 0 := ⟨by decide +kernel, by decide +kernel, by decide +kernel⟩
theorem ok_X2_add : yOk yX2_add 5 := ⟨by decide +kernel, by decide +kernel, by decide +kernel⟩
theorem ok_X2_init : yOk yX2_init 0 := ⟨by decide +kernel, by decide +kernel, by decide +kernel⟩
theorem ok_X3_init : yOk yX3_init 0 := ⟨by decide +kernel, by decide +kernel, by decide +kernel⟩
theorem ok_X4_init : yOk yX4_init 0 := ⟨by decide +kernel, by decide +kernel, by decide +kernel⟩
theorem ok_X5_init : yOk yX5_init 0 := ⟨by decide +kernel, by decide +kernel, by decide +kernel⟩
theorem ok_X5_mayBeSighted : yOk yX5_mayBeSighted 1 := ⟨by decide +kernel, by decide +kernel, by decide +kernel⟩
theorem ok_X6_add : yOk yX6_add 1 := ⟨by decide +kernel, by decide +kernel, by decide +kernel⟩
theorem ok_X6_goOn : yOk yX6_goOn 0 := ⟨by decide +kernel, by decide +kernel, by decide +kernel⟩
theorem ok_X6_init : yOk yX6_init 0 := ⟨by decide +kernel, by decide +kernel, by decide +kernel⟩
theorem ok_X6_readAsRule : yOk yX6_readAsRule 1 := ⟨by decide +kernel, by decide +kernel, by decide +kernel⟩
theorem ok_X6_readBoth : yOk yX6_readBoth 1 := ⟨by decide +kernel, by decide +kernel, by decide +kernel⟩
theorem ok_X6_readComparison : yOk yX6_readComparison 1 := ⟨by decide +kernel, by decide +kernel, by decide +kernel⟩
theorem ok_X6_readEither : yOk yX6_readEither 1 := ⟨by decide +kernel, by decide +kernel, by decide +kernel⟩
theorem ok_X6_readNegation : yOk yX6_readNegation 1 := ⟨by decide +kernel, by decide +kernel, by decide +kernel⟩
theorem ok_X6_readOperand : yOk yX6_readOperand 1 := ⟨by decide +kernel, by decide +kernel, by decide +kernel⟩
theorem ok_X6_readProduct : yOk yX6_readProduct 1 := ⟨by decide +kernel, by decide +kernel, by decide +kernel⟩
theorem ok_X6_readSum : yOk yX6_readSum 1 := ⟨by decide +kernel, by decide +kernel, by decide +kernel⟩
theorem ok_X7_becomeNew : yOk yX7_becomeNew 0 := ⟨by decide +kernel, by decide +kernel, by decide +kernel⟩
theorem ok_X7_init : yOk yX7_init 0 := ⟨by decide +kernel, by decide +kernel, by decide +kernel⟩
theorem ok_X8_bringWatch : yOk yX8_bringWatch 1 := ⟨by decide +kernel, by decide +kernel, by decide +kernel⟩
theorem ok_X8_firstLack : yOk yX8_firstLack 3 := ⟨by decide +kernel, by decide +kernel, by decide +kernel⟩
theorem ok_X8_fitsKind : yOk yX8_fitsKind 2 := ⟨by decide +kernel, by decide +kernel, by decide +kernel⟩
theorem ok_X8_isDay : yOk yX8_isDay 1 := ⟨by decide +kernel, by decide +kernel, by decide +kernel⟩
theorem ok_X8_isKnowledge : yOk yX8_isKnowledge 1 := ⟨by decide +kernel, by decide +kernel, by decide +kernel⟩
theorem ok_X8_isPast : yOk yX8_isPast 1 := ⟨by decide +kernel, by decide +kernel, by decide +kernel⟩
theorem ok_X8_isPlace : yOk yX8_isPlace 1 := ⟨by decide +kernel, by decide +kernel, by decide +kernel⟩
theorem ok_X8_isShip : yOk yX8_isShip 1 := ⟨by decide +kernel, by decide +kernel, by decide +kernel⟩
theorem ok_X8_isStretch : yOk yX8_isStretch 2 := ⟨by decide +kernel, by decide +kernel, by decide +kernel⟩
theorem ok_X8_isWithin : yOk yX8_isWithin 2 := ⟨by decide +kernel, by decide +kernel, by decide +kernel⟩
theorem ok_X8_lackAt : yOk yX8_lackAt 1 := ⟨by decide +kernel, by decide +kernel, by decide +kernel⟩
theorem ok_X8_markOn : yOk yX8_markOn 3 := ⟨by decide +kernel, by decide +kernel, by decide +kernel⟩
theorem ok_X8_placesWith : yOk yX8_placesWith 1 := ⟨by decide +kernel, by decide +kernel, by decide +kernel⟩
theorem ok_X8_refusalOfStretch : yOk yX8_refusalOfStretch 3 := ⟨by decide +kernel, by decide +kernel, by decide +kernel⟩
theorem ok_X8_shipsAtSea : yOk yX8_shipsAtSea 0 := ⟨by decide +kernel, by decide +kernel, by decide +kernel⟩
theorem ok_X8_watchAt : yOk yX8_watchAt 1 := ⟨by decide +kernel, by decide +kernel, by decide +kernel⟩
def xF (a : Nat → Nat) (t : Int32) : List Value := [.ref (a 0), .ref (a 1), .ref (a 2), .ref (a 3), .ref (a 4), .ref (a 5), .ref (a 6), .ref (a 7), .ref (a 8), .ref (a 9), .ref (a 10), .ref (a 11), .ref (a 12), .int t]
def sF (b : Nat → Nat) : List Value := [.ref (b 0), .ref (b 1), .ref (b 2), .ref (b 3), .ref (b 4), .ref (b 5), .ref (b 6), .int 0, .int 0, .int 0, .int 0]
end
section
theorem dX0_add_0 : decode cX0_add 0 = .ok (.aload_n 0, 1) := by decide +kernel
theorem dX0_add_1 : decode cX0_add 1 = .ok (.getfield 27, 3) := by decide +kernel
theorem dX0_add_4 : decode cX0_add 4 = .ok (.bipush 9, 2) := by decide +kernel
theorem dX0_add_6 : decode cX0_add 6 = .ok (.if_icmp .ge 23, 3) := by decide +kernel
theorem dX0_add_9 : decode cX0_add 9 = .ok (.aload_n 0, 1) := by decide +kernel
theorem dX0_add_10 : decode cX0_add 10 = .ok (.getfield 9, 3) := by decide +kernel
theorem dX0_add_13 : decode cX0_add 13 = .ok (.aload_n 0, 1) := by decide +kernel
theorem dX0_add_14 : decode cX0_add 14 = .ok (.getfield 27, 3) := by decide +kernel
theorem dX0_add_17 : decode cX0_add 17 = .ok (.iload_n 1, 1) := by decide +kernel
theorem dX0_add_18 : decode cX0_add 18 = .ok (.iastore, 1) := by decide +kernel
theorem dX0_add_19 : decode cX0_add 19 = .ok (.aload_n 0, 1) := by decide +kernel
theorem dX0_add_20 : decode cX0_add 20 = .ok (.dup, 1) := by decide +kernel
theorem dX0_add_21 : decode cX0_add 21 = .ok (.getfield 27, 3) := by decide +kernel
theorem dX0_add_24 : decode cX0_add 24 = .ok (.iconst 1, 1) := by decide +kernel
theorem dX0_add_25 : decode cX0_add 25 = .ok (.iadd, 1) := by decide +kernel
theorem dX0_add_26 : decode cX0_add 26 = .ok (.putfield 27, 3) := by decide +kernel
theorem dX0_add_29 : decode cX0_add 29 = .ok (.return_, 1) := by decide +kernel
theorem dX0_init_0 : decode cX0_init 0 = .ok (.aload_n 0, 1) := by decide +kernel
theorem dX0_init_1 : decode cX0_init 1 = .ok (.invokespecial 3, 3) := by decide +kernel
theorem dX0_init_4 : decode cX0_init 4 = .ok (.aload_n 0, 1) := by decide +kernel
theorem dX0_init_5 : decode cX0_init 5 = .ok (.bipush 9, 2) := by decide +kernel
theorem dX0_init_7 : decode cX0_init 7 = .ok (.newarray .int, 2) := by decide +kernel
theorem dX0_init_9 : decode cX0_init 9 = .ok (.putfield 9, 3) := by decide +kernel
theorem dX0_init_12 : decode cX0_init 12 = .ok (.aload_n 0, 1) := by decide +kernel
theorem dX0_init_13 : decode cX0_init 13 = .ok (.bipush 9, 2) := by decide +kernel
theorem dX0_init_15 : decode cX0_init 15 = .ok (.newarray .int, 2) := by decide +kernel
theorem dX0_init_17 : decode cX0_init 17 = .ok (.putfield 15, 3) := by decide +kernel
theorem dX0_init_20 : decode cX0_init 20 = .ok (.aload_n 0, 1) := by decide +kernel
theorem dX0_init_21 : decode cX0_init 21 = .ok (.bipush 9, 2) := by decide +kernel
theorem dX0_init_23 : decode cX0_init 23 = .ok (.newarray .int, 2) := by decide +kernel
theorem dX0_init_25 : decode cX0_init 25 = .ok (.putfield 18, 3) := by decide +kernel
theorem dX0_init_28 : decode cX0_init 28 = .ok (.aload_n 0, 1) := by decide +kernel
theorem dX0_init_29 : decode cX0_init 29 = .ok (.iconst 3, 1) := by decide +kernel
theorem dX0_init_30 : decode cX0_init 30 = .ok (.newarray .int, 2) := by decide +kernel
theorem dX0_init_32 : decode cX0_init 32 = .ok (.putfield 21, 3) := by decide +kernel
theorem dX0_init_35 : decode cX0_init 35 = .ok (.aload_n 0, 1) := by decide +kernel
theorem dX0_init_36 : decode cX0_init 36 = .ok (.iconst 3, 1) := by decide +kernel
theorem dX0_init_37 : decode cX0_init 37 = .ok (.newarray .int, 2) := by decide +kernel
theorem dX0_init_39 : decode cX0_init 39 = .ok (.putfield 24, 3) := by decide +kernel
theorem dX0_init_42 : decode cX0_init 42 = .ok (.aload_n 0, 1) := by decide +kernel
theorem dX0_init_43 : decode cX0_init 43 = .ok (.iconst 0, 1) := by decide +kernel
theorem dX0_init_44 : decode cX0_init 44 = .ok (.putfield 27, 3) := by decide +kernel
theorem dX0_init_47 : decode cX0_init 47 = .ok (.aload_n 0, 1) := by decide +kernel
theorem dX0_init_48 : decode cX0_init 48 = .ok (.iconst 0, 1) := by decide +kernel
theorem dX0_init_49 : decode cX0_init 49 = .ok (.putfield 31, 3) := by decide +kernel
theorem dX0_init_52 : decode cX0_init 52 = .ok (.aload_n 0, 1) := by decide +kernel
theorem dX0_init_53 : decode cX0_init 53 = .ok (.iconst 0, 1) := by decide +kernel
theorem dX0_init_54 : decode cX0_init 54 = .ok (.putfield 34, 3) := by decide +kernel
theorem dX0_init_57 : decode cX0_init 57 = .ok (.aload_n 0, 1) := by decide +kernel
theorem dX0_init_58 : decode cX0_init 58 = .ok (.iconst 0, 1) := by decide +kernel
theorem dX0_init_59 : decode cX0_init 59 = .ok (.putfield 37, 3) := by decide +kernel
theorem dX0_init_62 : decode cX0_init 62 = .ok (.return_, 1) := by decide +kernel
theorem dX1_init_0 : decode cX1_init 0 = .ok (.aload_n 0, 1) := by decide +kernel
theorem dX1_init_1 : decode cX1_init 1 = .ok (.invokespecial 3, 3) := by decide +kernel
theorem dX1_init_4 : decode cX1_init 4 = .ok (.aload_n 0, 1) := by decide +kernel
theorem dX1_init_5 : decode cX1_init 5 = .ok (.lconst 1, 1) := by decide +kernel
theorem dX1_init_6 : decode cX1_init 6 = .ok (.putfield 9, 3) := by decide +kernel
theorem dX1_init_9 : decode cX1_init 9 = .ok (.aload_n 0, 1) := by decide +kernel
theorem dX1_init_10 : decode cX1_init 10 = .ok (.iconst 1, 1) := by decide +kernel
theorem dX1_init_11 : decode cX1_init 11 = .ok (.putfield 15, 3) := by decide +kernel
theorem dX1_init_14 : decode cX1_init 14 = .ok (.return_, 1) := by decide +kernel
theorem dX2_add_0 : decode cX2_add 0 = .ok (.aload_n 0, 1) := by decide +kernel
theorem dX2_add_1 : decode cX2_add 1 = .ok (.getfield 27, 3) := by decide +kernel
theorem dX2_add_4 : decode cX2_add 4 = .ok (.bipush 60, 2) := by decide +kernel
theorem dX2_add_6 : decode cX2_add 6 = .ok (.if_icmp .lt 4, 3) := by decide +kernel
theorem dX2_add_10 : decode cX2_add 10 = .ok (.aload_n 0, 1) := by decide +kernel
theorem dX2_add_11 : decode cX2_add 11 = .ok (.getfield 9, 3) := by decide +kernel
theorem dX2_add_14 : decode cX2_add 14 = .ok (.aload_n 0, 1) := by decide +kernel
theorem dX2_add_15 : decode cX2_add 15 = .ok (.getfield 27, 3) := by decide +kernel
theorem dX2_add_18 : decode cX2_add 18 = .ok (.iload_n 1, 1) := by decide +kernel
theorem dX2_add_19 : decode cX2_add 19 = .ok (.iastore, 1) := by decide +kernel
theorem dX2_add_20 : decode cX2_add 20 = .ok (.aload_n 0, 1) := by decide +kernel
theorem dX2_add_21 : decode cX2_add 21 = .ok (.getfield 15, 3) := by decide +kernel
theorem dX2_add_24 : decode cX2_add 24 = .ok (.aload_n 0, 1) := by decide +kernel
theorem dX2_add_25 : decode cX2_add 25 = .ok (.getfield 27, 3) := by decide +kernel
theorem dX2_add_28 : decode cX2_add 28 = .ok (.iload_n 2, 1) := by decide +kernel
theorem dX2_add_29 : decode cX2_add 29 = .ok (.iastore, 1) := by decide +kernel
theorem dX2_add_30 : decode cX2_add 30 = .ok (.aload_n 0, 1) := by decide +kernel
theorem dX2_add_31 : decode cX2_add 31 = .ok (.getfield 18, 3) := by decide +kernel
theorem dX2_add_34 : decode cX2_add 34 = .ok (.aload_n 0, 1) := by decide +kernel
theorem dX2_add_35 : decode cX2_add 35 = .ok (.getfield 27, 3) := by decide +kernel
theorem dX2_add_38 : decode cX2_add 38 = .ok (.iload_n 3, 1) := by decide +kernel
theorem dX2_add_39 : decode cX2_add 39 = .ok (.iastore, 1) := by decide +kernel
theorem dX2_add_40 : decode cX2_add 40 = .ok (.aload_n 0, 1) := by decide +kernel
theorem dX2_add_41 : decode cX2_add 41 = .ok (.getfield 21, 3) := by decide +kernel
theorem dX2_add_44 : decode cX2_add 44 = .ok (.aload_n 0, 1) := by decide +kernel
theorem dX2_add_45 : decode cX2_add 45 = .ok (.getfield 27, 3) := by decide +kernel
theorem dX2_add_48 : decode cX2_add 48 = .ok (.iload 4, 2) := by decide +kernel
theorem dX2_add_50 : decode cX2_add 50 = .ok (.iastore, 1) := by decide +kernel
theorem dX2_add_51 : decode cX2_add 51 = .ok (.aload_n 0, 1) := by decide +kernel
theorem dX2_add_52 : decode cX2_add 52 = .ok (.getfield 24, 3) := by decide +kernel
theorem dX2_add_55 : decode cX2_add 55 = .ok (.aload_n 0, 1) := by decide +kernel
theorem dX2_add_56 : decode cX2_add 56 = .ok (.getfield 27, 3) := by decide +kernel
theorem dX2_add_59 : decode cX2_add 59 = .ok (.iload 5, 2) := by decide +kernel
theorem dX2_add_61 : decode cX2_add 61 = .ok (.iastore, 1) := by decide +kernel
theorem dX2_add_62 : decode cX2_add 62 = .ok (.aload_n 0, 1) := by decide +kernel
theorem dX2_add_63 : decode cX2_add 63 = .ok (.dup, 1) := by decide +kernel
theorem dX2_add_64 : decode cX2_add 64 = .ok (.getfield 27, 3) := by decide +kernel
theorem dX2_add_67 : decode cX2_add 67 = .ok (.iconst 1, 1) := by decide +kernel
theorem dX2_add_68 : decode cX2_add 68 = .ok (.iadd, 1) := by decide +kernel
theorem dX2_add_69 : decode cX2_add 69 = .ok (.putfield 27, 3) := by decide +kernel
theorem dX2_add_72 : decode cX2_add 72 = .ok (.return_, 1) := by decide +kernel
theorem dX2_init_0 : decode cX2_init 0 = .ok (.aload_n 0, 1) := by decide +kernel
theorem dX2_init_1 : decode cX2_init 1 = .ok (.invokespecial 3, 3) := by decide +kernel
theorem dX2_init_4 : decode cX2_init 4 = .ok (.aload_n 0, 1) := by decide +kernel
theorem dX2_init_5 : decode cX2_init 5 = .ok (.bipush 60, 2) := by decide +kernel
theorem dX2_init_7 : decode cX2_init 7 = .ok (.newarray .int, 2) := by decide +kernel
theorem dX2_init_9 : decode cX2_init 9 = .ok (.putfield 9, 3) := by decide +kernel
theorem dX2_init_12 : decode cX2_init 12 = .ok (.aload_n 0, 1) := by decide +kernel
theorem dX2_init_13 : decode cX2_init 13 = .ok (.bipush 60, 2) := by decide +kernel
theorem dX2_init_15 : decode cX2_init 15 = .ok (.newarray .int, 2) := by decide +kernel
theorem dX2_init_17 : decode cX2_init 17 = .ok (.putfield 15, 3) := by decide +kernel
theorem dX2_init_20 : decode cX2_init 20 = .ok (.aload_n 0, 1) := by decide +kernel
theorem dX2_init_21 : decode cX2_init 21 = .ok (.bipush 60, 2) := by decide +kernel
theorem dX2_init_23 : decode cX2_init 23 = .ok (.newarray .int, 2) := by decide +kernel
theorem dX2_init_25 : decode cX2_init 25 = .ok (.putfield 18, 3) := by decide +kernel
theorem dX2_init_28 : decode cX2_init 28 = .ok (.aload_n 0, 1) := by decide +kernel
theorem dX2_init_29 : decode cX2_init 29 = .ok (.bipush 60, 2) := by decide +kernel
theorem dX2_init_31 : decode cX2_init 31 = .ok (.newarray .int, 2) := by decide +kernel
theorem dX2_init_33 : decode cX2_init 33 = .ok (.putfield 21, 3) := by decide +kernel
theorem dX2_init_36 : decode cX2_init 36 = .ok (.aload_n 0, 1) := by decide +kernel
theorem dX2_init_37 : decode cX2_init 37 = .ok (.bipush 60, 2) := by decide +kernel
theorem dX2_init_39 : decode cX2_init 39 = .ok (.newarray .int, 2) := by decide +kernel
theorem dX2_init_41 : decode cX2_init 41 = .ok (.putfield 24, 3) := by decide +kernel
theorem dX2_init_44 : decode cX2_init 44 = .ok (.aload_n 0, 1) := by decide +kernel
theorem dX2_init_45 : decode cX2_init 45 = .ok (.iconst 0, 1) := by decide +kernel
theorem dX2_init_46 : decode cX2_init 46 = .ok (.putfield 27, 3) := by decide +kernel
theorem dX2_init_49 : decode cX2_init 49 = .ok (.return_, 1) := by decide +kernel
theorem dX3_init_0 : decode cX3_init 0 = .ok (.aload_n 0, 1) := by decide +kernel
theorem dX3_init_1 : decode cX3_init 1 = .ok (.invokespecial 3, 3) := by decide +kernel
theorem dX3_init_4 : decode cX3_init 4 = .ok (.aload_n 0, 1) := by decide +kernel
theorem dX3_init_5 : decode cX3_init 5 = .ok (.bipush 60, 2) := by decide +kernel
theorem dX3_init_7 : decode cX3_init 7 = .ok (.newarray .int, 2) := by decide +kernel
theorem dX3_init_9 : decode cX3_init 9 = .ok (.putfield 9, 3) := by decide +kernel
theorem dX3_init_12 : decode cX3_init 12 = .ok (.aload_n 0, 1) := by decide +kernel
theorem dX3_init_13 : decode cX3_init 13 = .ok (.bipush 60, 2) := by decide +kernel
theorem dX3_init_15 : decode cX3_init 15 = .ok (.newarray .int, 2) := by decide +kernel
theorem dX3_init_17 : decode cX3_init 17 = .ok (.putfield 15, 3) := by decide +kernel
theorem dX3_init_20 : decode cX3_init 20 = .ok (.aload_n 0, 1) := by decide +kernel
theorem dX3_init_21 : decode cX3_init 21 = .ok (.bipush 60, 2) := by decide +kernel
theorem dX3_init_23 : decode cX3_init 23 = .ok (.newarray .int, 2) := by decide +kernel
theorem dX3_init_25 : decode cX3_init 25 = .ok (.putfield 18, 3) := by decide +kernel
theorem dX3_init_28 : decode cX3_init 28 = .ok (.aload_n 0, 1) := by decide +kernel
theorem dX3_init_29 : decode cX3_init 29 = .ok (.iconst 0, 1) := by decide +kernel
theorem dX3_init_30 : decode cX3_init 30 = .ok (.putfield 21, 3) := by decide +kernel
theorem dX3_init_33 : decode cX3_init 33 = .ok (.return_, 1) := by decide +kernel
theorem dX4_init_0 : decode cX4_init 0 = .ok (.aload_n 0, 1) := by decide +kernel
theorem dX4_init_1 : decode cX4_init 1 = .ok (.invokespecial 3, 3) := by decide +kernel
theorem dX4_init_4 : decode cX4_init 4 = .ok (.aload_n 0, 1) := by decide +kernel
theorem dX4_init_5 : decode cX4_init 5 = .ok (.bipush 120, 2) := by decide +kernel
theorem dX4_init_7 : decode cX4_init 7 = .ok (.newarray .int, 2) := by decide +kernel
theorem dX4_init_9 : decode cX4_init 9 = .ok (.putfield 9, 3) := by decide +kernel
theorem dX4_init_12 : decode cX4_init 12 = .ok (.aload_n 0, 1) := by decide +kernel
theorem dX4_init_13 : decode cX4_init 13 = .ok (.bipush 120, 2) := by decide +kernel
theorem dX4_init_15 : decode cX4_init 15 = .ok (.newarray .int, 2) := by decide +kernel
theorem dX4_init_17 : decode cX4_init 17 = .ok (.putfield 15, 3) := by decide +kernel
theorem dX4_init_20 : decode cX4_init 20 = .ok (.aload_n 0, 1) := by decide +kernel
theorem dX4_init_21 : decode cX4_init 21 = .ok (.bipush 120, 2) := by decide +kernel
theorem dX4_init_23 : decode cX4_init 23 = .ok (.newarray .int, 2) := by decide +kernel
theorem dX4_init_25 : decode cX4_init 25 = .ok (.putfield 18, 3) := by decide +kernel
theorem dX4_init_28 : decode cX4_init 28 = .ok (.aload_n 0, 1) := by decide +kernel
theorem dX4_init_29 : decode cX4_init 29 = .ok (.iconst 0, 1) := by decide +kernel
theorem dX4_init_30 : decode cX4_init 30 = .ok (.putfield 21, 3) := by decide +kernel
theorem dX4_init_33 : decode cX4_init 33 = .ok (.return_, 1) := by decide +kernel
theorem dX5_init_0 : decode cX5_init 0 = .ok (.aload_n 0, 1) := by decide +kernel
theorem dX5_init_1 : decode cX5_init 1 = .ok (.invokespecial 3, 3) := by decide +kernel
theorem dX5_init_4 : decode cX5_init 4 = .ok (.aload_n 0, 1) := by decide +kernel
theorem dX5_init_5 : decode cX5_init 5 = .ok (.iconst 3, 1) := by decide +kernel
theorem dX5_init_6 : decode cX5_init 6 = .ok (.newarray .int, 2) := by decide +kernel
theorem dX5_init_8 : decode cX5_init 8 = .ok (.putfield 9, 3) := by decide +kernel
theorem dX5_init_11 : decode cX5_init 11 = .ok (.aload_n 0, 1) := by decide +kernel
theorem dX5_init_12 : decode cX5_init 12 = .ok (.iconst 3, 1) := by decide +kernel
theorem dX5_init_13 : decode cX5_init 13 = .ok (.newarray .int, 2) := by decide +kernel
theorem dX5_init_15 : decode cX5_init 15 = .ok (.putfield 15, 3) := by decide +kernel
theorem dX5_init_18 : decode cX5_init 18 = .ok (.aload_n 0, 1) := by decide +kernel
theorem dX5_init_19 : decode cX5_init 19 = .ok (.iconst 3, 1) := by decide +kernel
theorem dX5_init_20 : decode cX5_init 20 = .ok (.newarray .int, 2) := by decide +kernel
theorem dX5_init_22 : decode cX5_init 22 = .ok (.putfield 18, 3) := by decide +kernel
theorem dX5_init_25 : decode cX5_init 25 = .ok (.aload_n 0, 1) := by decide +kernel
theorem dX5_init_26 : decode cX5_init 26 = .ok (.iconst 3, 1) := by decide +kernel
theorem dX5_init_27 : decode cX5_init 27 = .ok (.newarray .int, 2) := by decide +kernel
theorem dX5_init_29 : decode cX5_init 29 = .ok (.putfield 21, 3) := by decide +kernel
theorem dX5_init_32 : decode cX5_init 32 = .ok (.aload_n 0, 1) := by decide +kernel
theorem dX5_init_33 : decode cX5_init 33 = .ok (.iconst 3, 1) := by decide +kernel
theorem dX5_init_34 : decode cX5_init 34 = .ok (.newarray .int, 2) := by decide +kernel
theorem dX5_init_36 : decode cX5_init 36 = .ok (.putfield 24, 3) := by decide +kernel
theorem dX5_init_39 : decode cX5_init 39 = .ok (.aload_n 0, 1) := by decide +kernel
theorem dX5_init_40 : decode cX5_init 40 = .ok (.bipush 40, 2) := by decide +kernel
theorem dX5_init_42 : decode cX5_init 42 = .ok (.newarray .int, 2) := by decide +kernel
theorem dX5_init_44 : decode cX5_init 44 = .ok (.putfield 27, 3) := by decide +kernel
theorem dX5_init_47 : decode cX5_init 47 = .ok (.aload_n 0, 1) := by decide +kernel
theorem dX5_init_48 : decode cX5_init 48 = .ok (.bipush 120, 2) := by decide +kernel
theorem dX5_init_50 : decode cX5_init 50 = .ok (.newarray .int, 2) := by decide +kernel
theorem dX5_init_52 : decode cX5_init 52 = .ok (.putfield 30, 3) := by decide +kernel
theorem dX5_init_55 : decode cX5_init 55 = .ok (.aload_n 0, 1) := by decide +kernel
theorem dX5_init_56 : decode cX5_init 56 = .ok (.iconst 0, 1) := by decide +kernel
theorem dX5_init_57 : decode cX5_init 57 = .ok (.putfield 33, 3) := by decide +kernel
theorem dX5_init_60 : decode cX5_init 60 = .ok (.aload_n 0, 1) := by decide +kernel
theorem dX5_init_61 : decode cX5_init 61 = .ok (.iconst 0, 1) := by decide +kernel
theorem dX5_init_62 : decode cX5_init 62 = .ok (.putfield 37, 3) := by decide +kernel
theorem dX5_init_65 : decode cX5_init 65 = .ok (.aload_n 0, 1) := by decide +kernel
theorem dX5_init_66 : decode cX5_init 66 = .ok (.iconst 0, 1) := by decide +kernel
theorem dX5_init_67 : decode cX5_init 67 = .ok (.putfield 40, 3) := by decide +kernel
theorem dX5_init_70 : decode cX5_init 70 = .ok (.aload_n 0, 1) := by decide +kernel
theorem dX5_init_71 : decode cX5_init 71 = .ok (.iconst 0, 1) := by decide +kernel
theorem dX5_init_72 : decode cX5_init 72 = .ok (.putfield 43, 3) := by decide +kernel
theorem dX5_init_75 : decode cX5_init 75 = .ok (.return_, 1) := by decide +kernel
theorem dX5_mayBeSighted_0 : decode cX5_mayBeSighted 0 = .ok (.aload_n 0, 1) := by decide +kernel
theorem dX5_mayBeSighted_1 : decode cX5_mayBeSighted 1 = .ok (.getfield 37, 3) := by decide +kernel
theorem dX5_mayBeSighted_4 : decode cX5_mayBeSighted 4 = .ok (.ifCond .ne 5, 3) := by decide +kernel
theorem dX5_mayBeSighted_7 : decode cX5_mayBeSighted 7 = .ok (.iconst 1, 1) := by decide +kernel
theorem dX5_mayBeSighted_8 : decode cX5_mayBeSighted 8 = .ok (.ireturn, 1) := by decide +kernel
theorem dX6_add_0 : decode cX6_add 0 = .ok (.aload_n 0, 1) := by decide +kernel
theorem dX6_add_1 : decode cX6_add 1 = .ok (.getfield 15, 3) := by decide +kernel
theorem dX6_add_4 : decode cX6_add 4 = .ok (.bipush 120, 2) := by decide +kernel
theorem dX6_add_6 : decode cX6_add 6 = .ok (.if_icmp .ge 23, 3) := by decide +kernel
theorem dX6_add_9 : decode cX6_add 9 = .ok (.aload_n 0, 1) := by decide +kernel
theorem dX6_add_10 : decode cX6_add 10 = .ok (.getfield 9, 3) := by decide +kernel
theorem dX6_add_13 : decode cX6_add 13 = .ok (.aload_n 0, 1) := by decide +kernel
theorem dX6_add_14 : decode cX6_add 14 = .ok (.getfield 15, 3) := by decide +kernel
theorem dX6_add_17 : decode cX6_add 17 = .ok (.iload_n 1, 1) := by decide +kernel
theorem dX6_add_18 : decode cX6_add 18 = .ok (.iastore, 1) := by decide +kernel
theorem dX6_add_19 : decode cX6_add 19 = .ok (.aload_n 0, 1) := by decide +kernel
theorem dX6_add_20 : decode cX6_add 20 = .ok (.dup, 1) := by decide +kernel
theorem dX6_add_21 : decode cX6_add 21 = .ok (.getfield 15, 3) := by decide +kernel
theorem dX6_add_24 : decode cX6_add 24 = .ok (.iconst 1, 1) := by decide +kernel
theorem dX6_add_25 : decode cX6_add 25 = .ok (.iadd, 1) := by decide +kernel
theorem dX6_add_26 : decode cX6_add 26 = .ok (.putfield 15, 3) := by decide +kernel
theorem dX6_add_29 : decode cX6_add 29 = .ok (.return_, 1) := by decide +kernel
theorem dX6_goOn_0 : decode cX6_goOn 0 = .ok (.aload_n 0, 1) := by decide +kernel
theorem dX6_goOn_1 : decode cX6_goOn 1 = .ok (.getfield 32, 3) := by decide +kernel
theorem dX6_goOn_4 : decode cX6_goOn 4 = .ok (.aload_n 0, 1) := by decide +kernel
theorem dX6_goOn_5 : decode cX6_goOn 5 = .ok (.getfield 15, 3) := by decide +kernel
theorem dX6_goOn_8 : decode cX6_goOn 8 = .ok (.if_icmp .ge 30, 3) := by decide +kernel
theorem dX6_goOn_38 : decode cX6_goOn 38 = .ok (.aload_n 0, 1) := by decide +kernel
theorem dX6_goOn_39 : decode cX6_goOn 39 = .ok (.aload_n 0, 1) := by decide +kernel
theorem dX6_goOn_40 : decode cX6_goOn 40 = .ok (.getfield 32, 3) := by decide +kernel
theorem dX6_goOn_43 : decode cX6_goOn 43 = .ok (.putfield 38, 3) := by decide +kernel
theorem dX6_goOn_46 : decode cX6_goOn 46 = .ok (.aload_n 0, 1) := by decide +kernel
theorem dX6_goOn_47 : decode cX6_goOn 47 = .ok (.getfield 32, 3) := by decide +kernel
theorem dX6_goOn_50 : decode cX6_goOn 50 = .ok (.aload_n 0, 1) := by decide +kernel
theorem dX6_goOn_51 : decode cX6_goOn 51 = .ok (.getfield 15, 3) := by decide +kernel
theorem dX6_goOn_54 : decode cX6_goOn 54 = .ok (.if_icmp .lt 11, 3) := by decide +kernel
theorem dX6_goOn_57 : decode cX6_goOn 57 = .ok (.aload_n 0, 1) := by decide +kernel
theorem dX6_goOn_58 : decode cX6_goOn 58 = .ok (.iconst 0, 1) := by decide +kernel
theorem dX6_goOn_59 : decode cX6_goOn 59 = .ok (.putfield 35, 3) := by decide +kernel
theorem dX6_goOn_62 : decode cX6_goOn 62 = .ok (.goto 89, 3) := by decide +kernel
theorem dX6_goOn_151 : decode cX6_goOn 151 = .ok (.return_, 1) := by decide +kernel
theorem dX6_init_0 : decode cX6_init 0 = .ok (.aload_n 0, 1) := by decide +kernel
theorem dX6_init_1 : decode cX6_init 1 = .ok (.invokespecial 3, 3) := by decide +kernel
theorem dX6_init_4 : decode cX6_init 4 = .ok (.aload_n 0, 1) := by decide +kernel
theorem dX6_init_5 : decode cX6_init 5 = .ok (.bipush 120, 2) := by decide +kernel
theorem dX6_init_7 : decode cX6_init 7 = .ok (.newarray .int, 2) := by decide +kernel
theorem dX6_init_9 : decode cX6_init 9 = .ok (.putfield 9, 3) := by decide +kernel
theorem dX6_init_12 : decode cX6_init 12 = .ok (.aload_n 0, 1) := by decide +kernel
theorem dX6_init_13 : decode cX6_init 13 = .ok (.iconst 0, 1) := by decide +kernel
theorem dX6_init_14 : decode cX6_init 14 = .ok (.putfield 15, 3) := by decide +kernel
theorem dX6_init_17 : decode cX6_init 17 = .ok (.aload_n 0, 1) := by decide +kernel
theorem dX6_init_18 : decode cX6_init 18 = .ok (.new 19, 3) := by decide +kernel
theorem dX6_init_21 : decode cX6_init 21 = .ok (.dup, 1) := by decide +kernel
theorem dX6_init_22 : decode cX6_init 22 = .ok (.invokespecial 21, 3) := by decide +kernel
theorem dX6_init_25 : decode cX6_init 25 = .ok (.putfield 22, 3) := by decide +kernel
theorem dX6_init_28 : decode cX6_init 28 = .ok (.aload_n 0, 1) := by decide +kernel
theorem dX6_init_29 : decode cX6_init 29 = .ok (.ldc 26, 2) := by decide +kernel
theorem dX6_init_31 : decode cX6_init 31 = .ok (.putfield 28, 3) := by decide +kernel
theorem dX6_init_34 : decode cX6_init 34 = .ok (.aload_n 0, 1) := by decide +kernel
theorem dX6_init_35 : decode cX6_init 35 = .ok (.iconst 0, 1) := by decide +kernel
theorem dX6_init_36 : decode cX6_init 36 = .ok (.putfield 32, 3) := by decide +kernel
theorem dX6_init_39 : decode cX6_init 39 = .ok (.aload_n 0, 1) := by decide +kernel
theorem dX6_init_40 : decode cX6_init 40 = .ok (.iconst 0, 1) := by decide +kernel
theorem dX6_init_41 : decode cX6_init 41 = .ok (.putfield 35, 3) := by decide +kernel
theorem dX6_init_44 : decode cX6_init 44 = .ok (.aload_n 0, 1) := by decide +kernel
theorem dX6_init_45 : decode cX6_init 45 = .ok (.iconst 0, 1) := by decide +kernel
theorem dX6_init_46 : decode cX6_init 46 = .ok (.putfield 38, 3) := by decide +kernel
theorem dX6_init_49 : decode cX6_init 49 = .ok (.aload_n 0, 1) := by decide +kernel
theorem dX6_init_50 : decode cX6_init 50 = .ok (.iconst 0, 1) := by decide +kernel
theorem dX6_init_51 : decode cX6_init 51 = .ok (.putfield 41, 3) := by decide +kernel
theorem dX6_init_54 : decode cX6_init 54 = .ok (.return_, 1) := by decide +kernel
theorem dX6_readAsRule_0 : decode cX6_readAsRule 0 = .ok (.aload_n 0, 1) := by decide +kernel
theorem dX6_readAsRule_1 : decode cX6_readAsRule 1 = .ok (.aload_n 1, 1) := by decide +kernel
theorem dX6_readAsRule_2 : decode cX6_readAsRule 2 = .ok (.putfield 28, 3) := by decide +kernel
theorem dX6_readAsRule_5 : decode cX6_readAsRule 5 = .ok (.aload_n 0, 1) := by decide +kernel
theorem dX6_readAsRule_6 : decode cX6_readAsRule 6 = .ok (.getfield 22, 3) := by decide +kernel
theorem dX6_readAsRule_9 : decode cX6_readAsRule 9 = .ok (.iconst 0, 1) := by decide +kernel
theorem dX6_readAsRule_10 : decode cX6_readAsRule 10 = .ok (.putfield 44, 3) := by decide +kernel
theorem dX6_readAsRule_13 : decode cX6_readAsRule 13 = .ok (.aload_n 0, 1) := by decide +kernel
theorem dX6_readAsRule_14 : decode cX6_readAsRule 14 = .ok (.iconst 0, 1) := by decide +kernel
theorem dX6_readAsRule_15 : decode cX6_readAsRule 15 = .ok (.putfield 32, 3) := by decide +kernel
theorem dX6_readAsRule_18 : decode cX6_readAsRule 18 = .ok (.aload_n 0, 1) := by decide +kernel
theorem dX6_readAsRule_19 : decode cX6_readAsRule 19 = .ok (.invokevirtual 45, 3) := by decide +kernel
theorem dX6_readAsRule_22 : decode cX6_readAsRule 22 = .ok (.aload_n 0, 1) := by decide +kernel
theorem dX6_readAsRule_23 : decode cX6_readAsRule 23 = .ok (.iconst 0, 1) := by decide +kernel
theorem dX6_readAsRule_24 : decode cX6_readAsRule 24 = .ok (.invokevirtual 48, 3) := by decide +kernel
theorem dX6_readAsRule_27 : decode cX6_readAsRule 27 = .ok (.istore_n 2, 1) := by decide +kernel
theorem dX6_readAsRule_28 : decode cX6_readAsRule 28 = .ok (.iload_n 2, 1) := by decide +kernel
theorem dX6_readAsRule_29 : decode cX6_readAsRule 29 = .ok (.ifCond .eq 14, 3) := by decide +kernel
theorem dX6_readAsRule_43 : decode cX6_readAsRule 43 = .ok (.aload_n 0, 1) := by decide +kernel
theorem dX6_readAsRule_44 : decode cX6_readAsRule 44 = .ok (.getfield 38, 3) := by decide +kernel
theorem dX6_readAsRule_47 : decode cX6_readAsRule 47 = .ok (.ireturn, 1) := by decide +kernel
theorem dX6_readBoth_0 : decode cX6_readBoth 0 = .ok (.aload_n 0, 1) := by decide +kernel
theorem dX6_readBoth_1 : decode cX6_readBoth 1 = .ok (.iload_n 1, 1) := by decide +kernel
theorem dX6_readBoth_2 : decode cX6_readBoth 2 = .ok (.invokevirtual 59, 3) := by decide +kernel
theorem dX6_readBoth_5 : decode cX6_readBoth 5 = .ok (.istore_n 2, 1) := by decide +kernel
theorem dX6_readBoth_6 : decode cX6_readBoth 6 = .ok (.iconst 0, 1) := by decide +kernel
theorem dX6_readBoth_7 : decode cX6_readBoth 7 = .ok (.istore_n 3, 1) := by decide +kernel
theorem dX6_readBoth_8 : decode cX6_readBoth 8 = .ok (.iload_n 3, 1) := by decide +kernel
theorem dX6_readBoth_9 : decode cX6_readBoth 9 = .ok (.bipush 120, 2) := by decide +kernel
theorem dX6_readBoth_11 : decode cX6_readBoth 11 = .ok (.if_icmp .ge 40, 3) := by decide +kernel
theorem dX6_readBoth_14 : decode cX6_readBoth 14 = .ok (.iload_n 2, 1) := by decide +kernel
theorem dX6_readBoth_15 : decode cX6_readBoth 15 = .ok (.ifCond .eq 36, 3) := by decide +kernel
theorem dX6_readBoth_51 : decode cX6_readBoth 51 = .ok (.iload_n 2, 1) := by decide +kernel
theorem dX6_readBoth_52 : decode cX6_readBoth 52 = .ok (.ireturn, 1) := by decide +kernel
theorem dX6_readComparison_0 : decode cX6_readComparison 0 = .ok (.aload_n 0, 1) := by decide +kernel
theorem dX6_readComparison_1 : decode cX6_readComparison 1 = .ok (.iload_n 1, 1) := by decide +kernel
theorem dX6_readComparison_2 : decode cX6_readComparison 2 = .ok (.invokevirtual 65, 3) := by decide +kernel
theorem dX6_readComparison_5 : decode cX6_readComparison 5 = .ok (.istore_n 2, 1) := by decide +kernel
theorem dX6_readComparison_6 : decode cX6_readComparison 6 = .ok (.iload_n 2, 1) := by decide +kernel
theorem dX6_readComparison_7 : decode cX6_readComparison 7 = .ok (.ifCond .eq 54, 3) := by decide +kernel
theorem dX6_readComparison_61 : decode cX6_readComparison 61 = .ok (.iload_n 2, 1) := by decide +kernel
theorem dX6_readComparison_62 : decode cX6_readComparison 62 = .ok (.ireturn, 1) := by decide +kernel
theorem dX6_readEither_0 : decode cX6_readEither 0 = .ok (.aload_n 0, 1) := by decide +kernel
theorem dX6_readEither_1 : decode cX6_readEither 1 = .ok (.iload_n 1, 1) := by decide +kernel
theorem dX6_readEither_2 : decode cX6_readEither 2 = .ok (.invokevirtual 52, 3) := by decide +kernel
theorem dX6_readEither_5 : decode cX6_readEither 5 = .ok (.istore_n 2, 1) := by decide +kernel
theorem dX6_readEither_6 : decode cX6_readEither 6 = .ok (.iconst 0, 1) := by decide +kernel
theorem dX6_readEither_7 : decode cX6_readEither 7 = .ok (.istore_n 3, 1) := by decide +kernel
theorem dX6_readEither_8 : decode cX6_readEither 8 = .ok (.iload_n 3, 1) := by decide +kernel
theorem dX6_readEither_9 : decode cX6_readEither 9 = .ok (.bipush 120, 2) := by decide +kernel
theorem dX6_readEither_11 : decode cX6_readEither 11 = .ok (.if_icmp .ge 40, 3) := by decide +kernel
theorem dX6_readEither_14 : decode cX6_readEither 14 = .ok (.iload_n 2, 1) := by decide +kernel
theorem dX6_readEither_15 : decode cX6_readEither 15 = .ok (.ifCond .eq 36, 3) := by decide +kernel
theorem dX6_readEither_51 : decode cX6_readEither 51 = .ok (.iload_n 2, 1) := by decide +kernel
theorem dX6_readEither_52 : decode cX6_readEither 52 = .ok (.ireturn, 1) := by decide +kernel
theorem dX6_readNegation_0 : decode cX6_readNegation 0 = .ok (.aload_n 0, 1) := by decide +kernel
theorem dX6_readNegation_1 : decode cX6_readNegation 1 = .ok (.getfield 35, 3) := by decide +kernel
theorem dX6_readNegation_4 : decode cX6_readNegation 4 = .ok (.bipush 6, 2) := by decide +kernel
theorem dX6_readNegation_6 : decode cX6_readNegation 6 = .ok (.if_icmp .eq 9, 3) := by decide +kernel
theorem dX6_readNegation_9 : decode cX6_readNegation 9 = .ok (.aload_n 0, 1) := by decide +kernel
theorem dX6_readNegation_10 : decode cX6_readNegation 10 = .ok (.iload_n 1, 1) := by decide +kernel
theorem dX6_readNegation_11 : decode cX6_readNegation 11 = .ok (.invokevirtual 62, 3) := by decide +kernel
theorem dX6_readNegation_14 : decode cX6_readNegation 14 = .ok (.ireturn, 1) := by decide +kernel
theorem dX6_readOperand_0 : decode cX6_readOperand 0 = .ok (.aload_n 0, 1) := by decide +kernel
theorem dX6_readOperand_1 : decode cX6_readOperand 1 = .ok (.getfield 35, 3) := by decide +kernel
theorem dX6_readOperand_4 : decode cX6_readOperand 4 = .ok (.iconst 2, 1) := by decide +kernel
theorem dX6_readOperand_5 : decode cX6_readOperand 5 = .ok (.if_icmp .eq 11, 3) := by decide +kernel
theorem dX6_readOperand_8 : decode cX6_readOperand 8 = .ok (.aload_n 0, 1) := by decide +kernel
theorem dX6_readOperand_9 : decode cX6_readOperand 9 = .ok (.getfield 35, 3) := by decide +kernel
theorem dX6_readOperand_12 : decode cX6_readOperand 12 = .ok (.iconst 3, 1) := by decide +kernel
theorem dX6_readOperand_13 : decode cX6_readOperand 13 = .ok (.if_icmp .ne 24, 3) := by decide +kernel
theorem dX6_readOperand_37 : decode cX6_readOperand 37 = .ok (.aload_n 0, 1) := by decide +kernel
theorem dX6_readOperand_38 : decode cX6_readOperand 38 = .ok (.getfield 35, 3) := by decide +kernel
theorem dX6_readOperand_41 : decode cX6_readOperand 41 = .ok (.bipush 40, 2) := by decide +kernel
theorem dX6_readOperand_43 : decode cX6_readOperand 43 = .ok (.if_icmp .eq 21, 3) := by decide +kernel
theorem dX6_readOperand_46 : decode cX6_readOperand 46 = .ok (.aload_n 0, 1) := by decide +kernel
theorem dX6_readOperand_47 : decode cX6_readOperand 47 = .ok (.getfield 35, 3) := by decide +kernel
theorem dX6_readOperand_50 : decode cX6_readOperand 50 = .ok (.bipush 7, 2) := by decide +kernel
theorem dX6_readOperand_52 : decode cX6_readOperand 52 = .ok (.if_icmp .eq 12, 3) := by decide +kernel
theorem dX6_readOperand_55 : decode cX6_readOperand 55 = .ok (.aload_n 0, 1) := by decide +kernel
theorem dX6_readOperand_56 : decode cX6_readOperand 56 = .ok (.getfield 35, 3) := by decide +kernel
theorem dX6_readOperand_59 : decode cX6_readOperand 59 = .ok (.bipush 45, 2) := by decide +kernel
theorem dX6_readOperand_61 : decode cX6_readOperand 61 = .ok (.if_icmp .ne 9, 3) := by decide +kernel
theorem dX6_readOperand_70 : decode cX6_readOperand 70 = .ok (.iconst 0, 1) := by decide +kernel
theorem dX6_readOperand_71 : decode cX6_readOperand 71 = .ok (.ireturn, 1) := by decide +kernel
theorem dX6_readProduct_0 : decode cX6_readProduct 0 = .ok (.aload_n 0, 1) := by decide +kernel
theorem dX6_readProduct_1 : decode cX6_readProduct 1 = .ok (.iload_n 1, 1) := by decide +kernel
theorem dX6_readProduct_2 : decode cX6_readProduct 2 = .ok (.invokevirtual 71, 3) := by decide +kernel
theorem dX6_readProduct_5 : decode cX6_readProduct 5 = .ok (.istore_n 2, 1) := by decide +kernel
theorem dX6_readProduct_6 : decode cX6_readProduct 6 = .ok (.iconst 0, 1) := by decide +kernel
theorem dX6_readProduct_7 : decode cX6_readProduct 7 = .ok (.istore_n 3, 1) := by decide +kernel
theorem dX6_readProduct_8 : decode cX6_readProduct 8 = .ok (.iload_n 3, 1) := by decide +kernel
theorem dX6_readProduct_9 : decode cX6_readProduct 9 = .ok (.bipush 120, 2) := by decide +kernel
theorem dX6_readProduct_11 : decode cX6_readProduct 11 = .ok (.if_icmp .ge 57, 3) := by decide +kernel
theorem dX6_readProduct_14 : decode cX6_readProduct 14 = .ok (.iload_n 2, 1) := by decide +kernel
theorem dX6_readProduct_15 : decode cX6_readProduct 15 = .ok (.ifCond .eq 53, 3) := by decide +kernel
theorem dX6_readProduct_68 : decode cX6_readProduct 68 = .ok (.iload_n 2, 1) := by decide +kernel
theorem dX6_readProduct_69 : decode cX6_readProduct 69 = .ok (.ireturn, 1) := by decide +kernel
theorem dX6_readSum_0 : decode cX6_readSum 0 = .ok (.aload_n 0, 1) := by decide +kernel
theorem dX6_readSum_1 : decode cX6_readSum 1 = .ok (.iload_n 1, 1) := by decide +kernel
theorem dX6_readSum_2 : decode cX6_readSum 2 = .ok (.invokevirtual 68, 3) := by decide +kernel
theorem dX6_readSum_5 : decode cX6_readSum 5 = .ok (.istore_n 2, 1) := by decide +kernel
theorem dX6_readSum_6 : decode cX6_readSum 6 = .ok (.iconst 0, 1) := by decide +kernel
theorem dX6_readSum_7 : decode cX6_readSum 7 = .ok (.istore_n 3, 1) := by decide +kernel
theorem dX6_readSum_8 : decode cX6_readSum 8 = .ok (.iload_n 3, 1) := by decide +kernel
theorem dX6_readSum_9 : decode cX6_readSum 9 = .ok (.bipush 120, 2) := by decide +kernel
theorem dX6_readSum_11 : decode cX6_readSum 11 = .ok (.if_icmp .ge 57, 3) := by decide +kernel
theorem dX6_readSum_14 : decode cX6_readSum 14 = .ok (.iload_n 2, 1) := by decide +kernel
theorem dX6_readSum_15 : decode cX6_readSum 15 = .ok (.ifCond .eq 53, 3) := by decide +kernel
theorem dX6_readSum_68 : decode cX6_readSum 68 = .ok (.iload_n 2, 1) := by decide +kernel
theorem dX6_readSum_69 : decode cX6_readSum 69 = .ok (.ireturn, 1) := by decide +kernel
theorem dX7_becomeNew_0 : decode cX7_becomeNew 0 = .ok (.iconst 0, 1) := by decide +kernel
theorem dX7_becomeNew_1 : decode cX7_becomeNew 1 = .ok (.istore_n 1, 1) := by decide +kernel
theorem dX7_becomeNew_2 : decode cX7_becomeNew 2 = .ok (.iload_n 1, 1) := by decide +kernel
theorem dX7_becomeNew_3 : decode cX7_becomeNew 3 = .ok (.sipush 400, 3) := by decide +kernel
theorem dX7_becomeNew_6 : decode cX7_becomeNew 6 = .ok (.if_icmp .ge 37, 3) := by decide +kernel
theorem dX7_becomeNew_9 : decode cX7_becomeNew 9 = .ok (.aload_n 0, 1) := by decide +kernel
theorem dX7_becomeNew_10 : decode cX7_becomeNew 10 = .ok (.getfield 9, 3) := by decide +kernel
theorem dX7_becomeNew_13 : decode cX7_becomeNew 13 = .ok (.iload_n 1, 1) := by decide +kernel
theorem dX7_becomeNew_14 : decode cX7_becomeNew 14 = .ok (.iconst 0, 1) := by decide +kernel
theorem dX7_becomeNew_15 : decode cX7_becomeNew 15 = .ok (.iastore, 1) := by decide +kernel
theorem dX7_becomeNew_16 : decode cX7_becomeNew 16 = .ok (.aload_n 0, 1) := by decide +kernel
theorem dX7_becomeNew_17 : decode cX7_becomeNew 17 = .ok (.getfield 15, 3) := by decide +kernel
theorem dX7_becomeNew_20 : decode cX7_becomeNew 20 = .ok (.iload_n 1, 1) := by decide +kernel
theorem dX7_becomeNew_21 : decode cX7_becomeNew 21 = .ok (.iconst (-1), 1) := by decide +kernel
theorem dX7_becomeNew_22 : decode cX7_becomeNew 22 = .ok (.iastore, 1) := by decide +kernel
theorem dX7_becomeNew_23 : decode cX7_becomeNew 23 = .ok (.aload_n 0, 1) := by decide +kernel
theorem dX7_becomeNew_24 : decode cX7_becomeNew 24 = .ok (.getfield 18, 3) := by decide +kernel
theorem dX7_becomeNew_27 : decode cX7_becomeNew 27 = .ok (.iload_n 1, 1) := by decide +kernel
theorem dX7_becomeNew_28 : decode cX7_becomeNew 28 = .ok (.iconst 0, 1) := by decide +kernel
theorem dX7_becomeNew_29 : decode cX7_becomeNew 29 = .ok (.iastore, 1) := by decide +kernel
theorem dX7_becomeNew_30 : decode cX7_becomeNew 30 = .ok (.aload_n 0, 1) := by decide +kernel
theorem dX7_becomeNew_31 : decode cX7_becomeNew 31 = .ok (.getfield 21, 3) := by decide +kernel
theorem dX7_becomeNew_34 : decode cX7_becomeNew 34 = .ok (.iload_n 1, 1) := by decide +kernel
theorem dX7_becomeNew_35 : decode cX7_becomeNew 35 = .ok (.iconst (-1), 1) := by decide +kernel
theorem dX7_becomeNew_36 : decode cX7_becomeNew 36 = .ok (.iastore, 1) := by decide +kernel
theorem dX7_becomeNew_37 : decode cX7_becomeNew 37 = .ok (.iinc 1 1, 3) := by decide +kernel
theorem dX7_becomeNew_40 : decode cX7_becomeNew 40 = .ok (.goto (-38), 3) := by decide +kernel
theorem dX7_becomeNew_43 : decode cX7_becomeNew 43 = .ok (.return_, 1) := by decide +kernel
theorem dX7_init_0 : decode cX7_init 0 = .ok (.aload_n 0, 1) := by decide +kernel
theorem dX7_init_1 : decode cX7_init 1 = .ok (.invokespecial 3, 3) := by decide +kernel
theorem dX7_init_4 : decode cX7_init 4 = .ok (.aload_n 0, 1) := by decide +kernel
theorem dX7_init_5 : decode cX7_init 5 = .ok (.sipush 400, 3) := by decide +kernel
theorem dX7_init_8 : decode cX7_init 8 = .ok (.newarray .int, 2) := by decide +kernel
theorem dX7_init_10 : decode cX7_init 10 = .ok (.putfield 9, 3) := by decide +kernel
theorem dX7_init_13 : decode cX7_init 13 = .ok (.aload_n 0, 1) := by decide +kernel
theorem dX7_init_14 : decode cX7_init 14 = .ok (.sipush 400, 3) := by decide +kernel
theorem dX7_init_17 : decode cX7_init 17 = .ok (.newarray .int, 2) := by decide +kernel
theorem dX7_init_19 : decode cX7_init 19 = .ok (.putfield 15, 3) := by decide +kernel
theorem dX7_init_22 : decode cX7_init 22 = .ok (.aload_n 0, 1) := by decide +kernel
theorem dX7_init_23 : decode cX7_init 23 = .ok (.sipush 400, 3) := by decide +kernel
theorem dX7_init_26 : decode cX7_init 26 = .ok (.newarray .int, 2) := by decide +kernel
theorem dX7_init_28 : decode cX7_init 28 = .ok (.putfield 18, 3) := by decide +kernel
theorem dX7_init_31 : decode cX7_init 31 = .ok (.aload_n 0, 1) := by decide +kernel
theorem dX7_init_32 : decode cX7_init 32 = .ok (.sipush 400, 3) := by decide +kernel
theorem dX7_init_35 : decode cX7_init 35 = .ok (.newarray .int, 2) := by decide +kernel
theorem dX7_init_37 : decode cX7_init 37 = .ok (.putfield 21, 3) := by decide +kernel
theorem dX7_init_40 : decode cX7_init 40 = .ok (.return_, 1) := by decide +kernel
theorem dX8_age_0 : decode cX8_age 0 = .ok (.iload_n 1, 1) := by decide +kernel
theorem dX8_age_1 : decode cX8_age 1 = .ok (.invokestatic 92, 3) := by decide +kernel
theorem dX8_age_4 : decode cX8_age 4 = .ok (.ifCond .eq 10, 3) := by decide +kernel
theorem dX8_age_7 : decode cX8_age 7 = .ok (.iload_n 2, 1) := by decide +kernel
theorem dX8_age_8 : decode cX8_age 8 = .ok (.invokestatic 84, 3) := by decide +kernel
theorem dX8_age_11 : decode cX8_age 11 = .ok (.ifCond .ne 5, 3) := by decide +kernel
theorem dX8_age_14 : decode cX8_age 14 = .ok (.iconst (-1), 1) := by decide +kernel
theorem dX8_age_15 : decode cX8_age 15 = .ok (.ireturn, 1) := by decide +kernel
theorem dX8_age_16 : decode cX8_age 16 = .ok (.aload_n 0, 1) := by decide +kernel
theorem dX8_age_17 : decode cX8_age 17 = .ok (.iload_n 1, 1) := by decide +kernel
theorem dX8_age_18 : decode cX8_age 18 = .ok (.invokevirtual 102, 3) := by decide +kernel
theorem dX8_age_21 : decode cX8_age 21 = .ok (.astore_n 3, 1) := by decide +kernel
theorem dX8_age_22 : decode cX8_age 22 = .ok (.aload_n 3, 1) := by decide +kernel
theorem dX8_age_23 : decode cX8_age 23 = .ok (.ifnonnull 11, 3) := by decide +kernel
theorem dX8_age_26 : decode cX8_age 26 = .ok (.aload_n 0, 1) := by decide +kernel
theorem dX8_age_27 : decode cX8_age 27 = .ok (.iload_n 1, 1) := by decide +kernel
theorem dX8_age_28 : decode cX8_age 28 = .ok (.invokevirtual 115, 3) := by decide +kernel
theorem dX8_age_31 : decode cX8_age 31 = .ok (.goto 8, 3) := by decide +kernel
theorem dX8_age_39 : decode cX8_age 39 = .ok (.ireturn, 1) := by decide +kernel
theorem dX8_away_0 : decode cX8_away 0 = .ok (.iload_n 1, 1) := by decide +kernel
theorem dX8_away_1 : decode cX8_away 1 = .ok (.invokestatic 92, 3) := by decide +kernel
theorem dX8_away_4 : decode cX8_away 4 = .ok (.ifCond .ne 5, 3) := by decide +kernel
theorem dX8_away_7 : decode cX8_away 7 = .ok (.iconst (-1), 1) := by decide +kernel
theorem dX8_away_8 : decode cX8_away 8 = .ok (.ireturn, 1) := by decide +kernel
theorem dX8_away_9 : decode cX8_away 9 = .ok (.aload_n 0, 1) := by decide +kernel
theorem dX8_away_10 : decode cX8_away 10 = .ok (.iload_n 1, 1) := by decide +kernel
theorem dX8_away_11 : decode cX8_away 11 = .ok (.invokevirtual 102, 3) := by decide +kernel
theorem dX8_away_14 : decode cX8_away 14 = .ok (.astore_n 2, 1) := by decide +kernel
theorem dX8_away_15 : decode cX8_away 15 = .ok (.aload_n 2, 1) := by decide +kernel
theorem dX8_away_16 : decode cX8_away 16 = .ok (.ifnonnull 11, 3) := by decide +kernel
theorem dX8_away_19 : decode cX8_away 19 = .ok (.aload_n 0, 1) := by decide +kernel
theorem dX8_away_20 : decode cX8_away 20 = .ok (.iload_n 1, 1) := by decide +kernel
theorem dX8_away_21 : decode cX8_away 21 = .ok (.invokevirtual 115, 3) := by decide +kernel
theorem dX8_away_24 : decode cX8_away 24 = .ok (.goto 11, 3) := by decide +kernel
theorem dX8_away_35 : decode cX8_away 35 = .ok (.ireturn, 1) := by decide +kernel
theorem dX8_back_0 : decode cX8_back 0 = .ok (.iload_n 1, 1) := by decide +kernel
theorem dX8_back_1 : decode cX8_back 1 = .ok (.invokestatic 202, 3) := by decide +kernel
theorem dX8_back_4 : decode cX8_back 4 = .ok (.ifCond .eq 31, 3) := by decide +kernel
theorem dX8_back_7 : decode cX8_back 7 = .ok (.iload_n 2, 1) := by decide +kernel
theorem dX8_back_8 : decode cX8_back 8 = .ok (.ldc 114, 2) := by decide +kernel
theorem dX8_back_10 : decode cX8_back 10 = .ok (.invokestatic 88, 3) := by decide +kernel
theorem dX8_back_13 : decode cX8_back 13 = .ok (.ifCond .eq 22, 3) := by decide +kernel
theorem dX8_back_16 : decode cX8_back 16 = .ok (.iload_n 3, 1) := by decide +kernel
theorem dX8_back_17 : decode cX8_back 17 = .ok (.ldc 114, 2) := by decide +kernel
theorem dX8_back_19 : decode cX8_back 19 = .ok (.invokestatic 88, 3) := by decide +kernel
theorem dX8_back_22 : decode cX8_back 22 = .ok (.ifCond .eq 13, 3) := by decide +kernel
theorem dX8_back_25 : decode cX8_back 25 = .ok (.iload 4, 2) := by decide +kernel
theorem dX8_back_27 : decode cX8_back 27 = .ok (.ldc 114, 2) := by decide +kernel
theorem dX8_back_29 : decode cX8_back 29 = .ok (.invokestatic 88, 3) := by decide +kernel
theorem dX8_back_32 : decode cX8_back 32 = .ok (.ifCond .ne 5, 3) := by decide +kernel
theorem dX8_back_35 : decode cX8_back 35 = .ok (.iconst (-1), 1) := by decide +kernel
theorem dX8_back_36 : decode cX8_back 36 = .ok (.ireturn, 1) := by decide +kernel
theorem dX8_back_37 : decode cX8_back 37 = .ok (.aload_n 0, 1) := by decide +kernel
theorem dX8_back_38 : decode cX8_back 38 = .ok (.getfield 27, 3) := by decide +kernel
theorem dX8_back_41 : decode cX8_back 41 = .ok (.iload_n 1, 1) := by decide +kernel
theorem dX8_back_42 : decode cX8_back 42 = .ok (.aaload, 1) := by decide +kernel
theorem dX8_back_43 : decode cX8_back 43 = .ok (.astore 5, 2) := by decide +kernel
theorem dX8_back_45 : decode cX8_back 45 = .ok (.aload 5, 2) := by decide +kernel
theorem dX8_back_47 : decode cX8_back 47 = .ok (.getfield 208, 3) := by decide +kernel
theorem dX8_back_50 : decode cX8_back 50 = .ok (.iconst 1, 1) := by decide +kernel
theorem dX8_back_51 : decode cX8_back 51 = .ok (.if_icmp .ne 15, 3) := by decide +kernel
theorem dX8_back_66 : decode cX8_back 66 = .ok (.bipush (-4), 2) := by decide +kernel
theorem dX8_back_68 : decode cX8_back 68 = .ok (.ireturn, 1) := by decide +kernel
theorem dX8_bringWatch_0 : decode cX8_bringWatch 0 = .ok (.iload_n 1, 1) := by decide +kernel
theorem dX8_bringWatch_1 : decode cX8_bringWatch 1 = .ok (.invokestatic 92, 3) := by decide +kernel
theorem dX8_bringWatch_4 : decode cX8_bringWatch 4 = .ok (.ifCond .ne 4, 3) := by decide +kernel
theorem dX8_bringWatch_7 : decode cX8_bringWatch 7 = .ok (.return_, 1) := by decide +kernel
theorem dX8_bringWatch_8 : decode cX8_bringWatch 8 = .ok (.aload_n 0, 1) := by decide +kernel
theorem dX8_bringWatch_9 : decode cX8_bringWatch 9 = .ok (.getfield 21, 3) := by decide +kernel
theorem dX8_bringWatch_12 : decode cX8_bringWatch 12 = .ok (.iload_n 1, 1) := by decide +kernel
theorem dX8_bringWatch_13 : decode cX8_bringWatch 13 = .ok (.aaload, 1) := by decide +kernel
theorem dX8_bringWatch_14 : decode cX8_bringWatch 14 = .ok (.ifnonnull 16, 3) := by decide +kernel
theorem dX8_bringWatch_17 : decode cX8_bringWatch 17 = .ok (.aload_n 0, 1) := by decide +kernel
theorem dX8_bringWatch_18 : decode cX8_bringWatch 18 = .ok (.getfield 21, 3) := by decide +kernel
theorem dX8_bringWatch_21 : decode cX8_bringWatch 21 = .ok (.iload_n 1, 1) := by decide +kernel
theorem dX8_bringWatch_22 : decode cX8_bringWatch 22 = .ok (.new 19, 3) := by decide +kernel
theorem dX8_bringWatch_25 : decode cX8_bringWatch 25 = .ok (.dup, 1) := by decide +kernel
theorem dX8_bringWatch_26 : decode cX8_bringWatch 26 = .ok (.invokespecial 301, 3) := by decide +kernel
theorem dX8_bringWatch_29 : decode cX8_bringWatch 29 = .ok (.aastore, 1) := by decide +kernel
theorem dX8_bringWatch_30 : decode cX8_bringWatch 30 = .ok (.aload_n 0, 1) := by decide +kernel
theorem dX8_bringWatch_31 : decode cX8_bringWatch 31 = .ok (.getfield 21, 3) := by decide +kernel
theorem dX8_bringWatch_34 : decode cX8_bringWatch 34 = .ok (.iload_n 1, 1) := by decide +kernel
theorem dX8_bringWatch_35 : decode cX8_bringWatch 35 = .ok (.aaload, 1) := by decide +kernel
theorem dX8_bringWatch_36 : decode cX8_bringWatch 36 = .ok (.invokevirtual 302, 3) := by decide +kernel
theorem dX8_bringWatch_39 : decode cX8_bringWatch 39 = .ok (.return_, 1) := by decide +kernel
theorem dX8_carried_0 : decode cX8_carried 0 = .ok (.iload_n 1, 1) := by decide +kernel
theorem dX8_carried_1 : decode cX8_carried 1 = .ok (.invokestatic 202, 3) := by decide +kernel
theorem dX8_carried_4 : decode cX8_carried 4 = .ok (.ifCond .eq 24, 3) := by decide +kernel
theorem dX8_carried_7 : decode cX8_carried 7 = .ok (.iload_n 2, 1) := by decide +kernel
theorem dX8_carried_8 : decode cX8_carried 8 = .ok (.ifCond .lt 20, 3) := by decide +kernel
theorem dX8_carried_11 : decode cX8_carried 11 = .ok (.iload_n 2, 1) := by decide +kernel
theorem dX8_carried_12 : decode cX8_carried 12 = .ok (.iconst 3, 1) := by decide +kernel
theorem dX8_carried_13 : decode cX8_carried 13 = .ok (.if_icmp .ge 15, 3) := by decide +kernel
theorem dX8_carried_16 : decode cX8_carried 16 = .ok (.aload_n 0, 1) := by decide +kernel
theorem dX8_carried_17 : decode cX8_carried 17 = .ok (.getfield 27, 3) := by decide +kernel
theorem dX8_carried_20 : decode cX8_carried 20 = .ok (.iload_n 1, 1) := by decide +kernel
theorem dX8_carried_21 : decode cX8_carried 21 = .ok (.aaload, 1) := by decide +kernel
theorem dX8_carried_22 : decode cX8_carried 22 = .ok (.getfield 208, 3) := by decide +kernel
theorem dX8_carried_25 : decode cX8_carried 25 = .ok (.ifCond .ne 6, 3) := by decide +kernel
theorem dX8_carried_28 : decode cX8_carried 28 = .ok (.ldc 110, 2) := by decide +kernel
theorem dX8_carried_30 : decode cX8_carried 30 = .ok (.ireturn, 1) := by decide +kernel
theorem dX8_changed_0 : decode cX8_changed 0 = .ok (.iload_n 1, 1) := by decide +kernel
theorem dX8_changed_1 : decode cX8_changed 1 = .ok (.invokestatic 92, 3) := by decide +kernel
theorem dX8_changed_4 : decode cX8_changed 4 = .ok (.ifCond .eq 19, 3) := by decide +kernel
theorem dX8_changed_7 : decode cX8_changed 7 = .ok (.iload_n 2, 1) := by decide +kernel
theorem dX8_changed_8 : decode cX8_changed 8 = .ok (.iload_n 3, 1) := by decide +kernel
theorem dX8_changed_9 : decode cX8_changed 9 = .ok (.invokestatic 149, 3) := by decide +kernel
theorem dX8_changed_12 : decode cX8_changed 12 = .ok (.ifCond .eq 11, 3) := by decide +kernel
theorem dX8_changed_15 : decode cX8_changed 15 = .ok (.iload 4, 2) := by decide +kernel
theorem dX8_changed_17 : decode cX8_changed 17 = .ok (.invokestatic 125, 3) := by decide +kernel
theorem dX8_changed_20 : decode cX8_changed 20 = .ok (.ifCond .ne 5, 3) := by decide +kernel
theorem dX8_changed_23 : decode cX8_changed 23 = .ok (.iconst (-1), 1) := by decide +kernel
theorem dX8_changed_24 : decode cX8_changed 24 = .ok (.ireturn, 1) := by decide +kernel
theorem dX8_changed_25 : decode cX8_changed 25 = .ok (.aload_n 0, 1) := by decide +kernel
theorem dX8_changed_26 : decode cX8_changed 26 = .ok (.iload_n 1, 1) := by decide +kernel
theorem dX8_changed_27 : decode cX8_changed 27 = .ok (.invokevirtual 102, 3) := by decide +kernel
theorem dX8_changed_30 : decode cX8_changed 30 = .ok (.astore 5, 2) := by decide +kernel
theorem dX8_changed_32 : decode cX8_changed 32 = .ok (.aload 5, 2) := by decide +kernel
theorem dX8_changed_34 : decode cX8_changed 34 = .ok (.ifnonnull 9, 3) := by decide +kernel
theorem dX8_changed_37 : decode cX8_changed 37 = .ok (.aload_n 0, 1) := by decide +kernel
theorem dX8_changed_38 : decode cX8_changed 38 = .ok (.iload_n 1, 1) := by decide +kernel
theorem dX8_changed_39 : decode cX8_changed 39 = .ok (.invokevirtual 115, 3) := by decide +kernel
theorem dX8_changed_42 : decode cX8_changed 42 = .ok (.ireturn, 1) := by decide +kernel
theorem dX8_compare_0 : decode cX8_compare 0 = .ok (.iload_n 1, 1) := by decide +kernel
theorem dX8_compare_1 : decode cX8_compare 1 = .ok (.invokestatic 92, 3) := by decide +kernel
theorem dX8_compare_4 : decode cX8_compare 4 = .ok (.ifCond .eq 32, 3) := by decide +kernel
theorem dX8_compare_7 : decode cX8_compare 7 = .ok (.aload_n 0, 1) := by decide +kernel
theorem dX8_compare_8 : decode cX8_compare 8 = .ok (.iload_n 2, 1) := by decide +kernel
theorem dX8_compare_9 : decode cX8_compare 9 = .ok (.invokevirtual 111, 3) := by decide +kernel
theorem dX8_compare_12 : decode cX8_compare 12 = .ok (.ifCond .eq 24, 3) := by decide +kernel
theorem dX8_compare_15 : decode cX8_compare 15 = .ok (.iload_n 3, 1) := by decide +kernel
theorem dX8_compare_16 : decode cX8_compare 16 = .ok (.ldc 114, 2) := by decide +kernel
theorem dX8_compare_18 : decode cX8_compare 18 = .ok (.invokestatic 88, 3) := by decide +kernel
theorem dX8_compare_21 : decode cX8_compare 21 = .ok (.ifCond .eq 15, 3) := by decide +kernel
theorem dX8_compare_24 : decode cX8_compare 24 = .ok (.iload 4, 2) := by decide +kernel
theorem dX8_compare_26 : decode cX8_compare 26 = .ok (.ifCond .lt 10, 3) := by decide +kernel
theorem dX8_compare_29 : decode cX8_compare 29 = .ok (.iload 4, 2) := by decide +kernel
theorem dX8_compare_31 : decode cX8_compare 31 = .ok (.bipush 6, 2) := by decide +kernel
theorem dX8_compare_33 : decode cX8_compare 33 = .ok (.if_icmp .lt 5, 3) := by decide +kernel
theorem dX8_compare_36 : decode cX8_compare 36 = .ok (.iconst (-1), 1) := by decide +kernel
theorem dX8_compare_37 : decode cX8_compare 37 = .ok (.ireturn, 1) := by decide +kernel
theorem dX8_compare_38 : decode cX8_compare 38 = .ok (.aload_n 0, 1) := by decide +kernel
theorem dX8_compare_39 : decode cX8_compare 39 = .ok (.iload_n 1, 1) := by decide +kernel
theorem dX8_compare_40 : decode cX8_compare 40 = .ok (.invokevirtual 102, 3) := by decide +kernel
theorem dX8_compare_43 : decode cX8_compare 43 = .ok (.astore 5, 2) := by decide +kernel
theorem dX8_compare_45 : decode cX8_compare 45 = .ok (.aload 5, 2) := by decide +kernel
theorem dX8_compare_47 : decode cX8_compare 47 = .ok (.ifnonnull 9, 3) := by decide +kernel
theorem dX8_compare_50 : decode cX8_compare 50 = .ok (.aload_n 0, 1) := by decide +kernel
theorem dX8_compare_51 : decode cX8_compare 51 = .ok (.iload_n 1, 1) := by decide +kernel
theorem dX8_compare_52 : decode cX8_compare 52 = .ok (.invokevirtual 115, 3) := by decide +kernel
theorem dX8_compare_55 : decode cX8_compare 55 = .ok (.ireturn, 1) := by decide +kernel
theorem dX8_count_0 : decode cX8_count 0 = .ok (.iload_n 1, 1) := by decide +kernel
theorem dX8_count_1 : decode cX8_count 1 = .ok (.tableswitch 95 0 6 #[43, 55, 60, 68, 73, 81, 87], 43) := by decide +kernel
theorem dX8_count_44 : decode cX8_count 44 = .ok (.aload_n 0, 1) := by decide +kernel
theorem dX8_count_45 : decode cX8_count 45 = .ok (.iconst 0, 1) := by decide +kernel
theorem dX8_count_46 : decode cX8_count 46 = .ok (.invokevirtual 295, 3) := by decide +kernel
theorem dX8_count_49 : decode cX8_count 49 = .ok (.aload_n 0, 1) := by decide +kernel
theorem dX8_count_50 : decode cX8_count 50 = .ok (.iconst 1, 1) := by decide +kernel
theorem dX8_count_51 : decode cX8_count 51 = .ok (.invokevirtual 295, 3) := by decide +kernel
theorem dX8_count_54 : decode cX8_count 54 = .ok (.iadd, 1) := by decide +kernel
theorem dX8_count_55 : decode cX8_count 55 = .ok (.ireturn, 1) := by decide +kernel
theorem dX8_count_56 : decode cX8_count 56 = .ok (.aload_n 0, 1) := by decide +kernel
theorem dX8_count_57 : decode cX8_count 57 = .ok (.getfield 79, 3) := by decide +kernel
theorem dX8_count_60 : decode cX8_count 60 = .ok (.ireturn, 1) := by decide +kernel
theorem dX8_count_61 : decode cX8_count 61 = .ok (.aload_n 0, 1) := by decide +kernel
theorem dX8_count_62 : decode cX8_count 62 = .ok (.getfield 37, 3) := by decide +kernel
theorem dX8_count_65 : decode cX8_count 65 = .ok (.getfield 142, 3) := by decide +kernel
theorem dX8_count_68 : decode cX8_count 68 = .ok (.ireturn, 1) := by decide +kernel
theorem dX8_count_69 : decode cX8_count 69 = .ok (.aload_n 0, 1) := by decide +kernel
theorem dX8_count_70 : decode cX8_count 70 = .ok (.invokevirtual 298, 3) := by decide +kernel
theorem dX8_count_73 : decode cX8_count 73 = .ok (.ireturn, 1) := by decide +kernel
theorem dX8_count_74 : decode cX8_count 74 = .ok (.aload_n 0, 1) := by decide +kernel
theorem dX8_count_75 : decode cX8_count 75 = .ok (.getfield 58, 3) := by decide +kernel
theorem dX8_count_78 : decode cX8_count 78 = .ok (.getfield 179, 3) := by decide +kernel
theorem dX8_count_81 : decode cX8_count 81 = .ok (.ireturn, 1) := by decide +kernel
theorem dX8_count_82 : decode cX8_count 82 = .ok (.aload_n 0, 1) := by decide +kernel
theorem dX8_count_83 : decode cX8_count 83 = .ok (.iconst 2, 1) := by decide +kernel
theorem dX8_count_84 : decode cX8_count 84 = .ok (.invokevirtual 295, 3) := by decide +kernel
theorem dX8_count_87 : decode cX8_count 87 = .ok (.ireturn, 1) := by decide +kernel
theorem dX8_count_88 : decode cX8_count 88 = .ok (.aload_n 0, 1) := by decide +kernel
theorem dX8_count_89 : decode cX8_count 89 = .ok (.getfield 65, 3) := by decide +kernel
theorem dX8_count_92 : decode cX8_count 92 = .ok (.getfield 275, 3) := by decide +kernel
theorem dX8_count_95 : decode cX8_count 95 = .ok (.ireturn, 1) := by decide +kernel
theorem dX8_count_96 : decode cX8_count 96 = .ok (.iconst (-1), 1) := by decide +kernel
theorem dX8_count_97 : decode cX8_count 97 = .ok (.ireturn, 1) := by decide +kernel
theorem dX8_days_0 : decode cX8_days 0 = .ok (.iload_n 1, 1) := by decide +kernel
theorem dX8_days_1 : decode cX8_days 1 = .ok (.iconst 1, 1) := by decide +kernel
theorem dX8_days_2 : decode cX8_days 2 = .ok (.if_icmp .lt 21, 3) := by decide +kernel
theorem dX8_days_5 : decode cX8_days 5 = .ok (.iload_n 1, 1) := by decide +kernel
theorem dX8_days_6 : decode cX8_days 6 = .ok (.bipush 100, 2) := by decide +kernel
theorem dX8_days_8 : decode cX8_days 8 = .ok (.if_icmp .gt 15, 3) := by decide +kernel
theorem dX8_days_11 : decode cX8_days 11 = .ok (.aload_n 0, 1) := by decide +kernel
theorem dX8_days_12 : decode cX8_days 12 = .ok (.getfield 79, 3) := by decide +kernel
theorem dX8_days_15 : decode cX8_days 15 = .ok (.iload_n 1, 1) := by decide +kernel
theorem dX8_days_16 : decode cX8_days 16 = .ok (.iadd, 1) := by decide +kernel
theorem dX8_days_17 : decode cX8_days 17 = .ok (.sipush 400, 3) := by decide +kernel
theorem dX8_days_20 : decode cX8_days 20 = .ok (.if_icmp .lt 5, 3) := by decide +kernel
theorem dX8_days_23 : decode cX8_days 23 = .ok (.iconst (-1), 1) := by decide +kernel
theorem dX8_days_24 : decode cX8_days 24 = .ok (.ireturn, 1) := by decide +kernel
theorem dX8_days_25 : decode cX8_days 25 = .ok (.aload_n 0, 1) := by decide +kernel
theorem dX8_days_26 : decode cX8_days 26 = .ok (.dup, 1) := by decide +kernel
theorem dX8_days_27 : decode cX8_days 27 = .ok (.getfield 79, 3) := by decide +kernel
theorem dX8_days_30 : decode cX8_days 30 = .ok (.iload_n 1, 1) := by decide +kernel
theorem dX8_days_31 : decode cX8_days 31 = .ok (.iadd, 1) := by decide +kernel
theorem dX8_days_32 : decode cX8_days 32 = .ok (.putfield 79, 3) := by decide +kernel
theorem dX8_days_35 : decode cX8_days 35 = .ok (.aload_n 0, 1) := by decide +kernel
theorem dX8_days_36 : decode cX8_days 36 = .ok (.getfield 79, 3) := by decide +kernel
theorem dX8_days_39 : decode cX8_days 39 = .ok (.ireturn, 1) := by decide +kernel
theorem dX8_deal_0 : decode cX8_deal 0 = .ok (.iload_n 1, 1) := by decide +kernel
theorem dX8_deal_1 : decode cX8_deal 1 = .ok (.iconst 1, 1) := by decide +kernel
theorem dX8_deal_2 : decode cX8_deal 2 = .ok (.if_icmp .lt 40, 3) := by decide +kernel
theorem dX8_deal_5 : decode cX8_deal 5 = .ok (.iload_n 1, 1) := by decide +kernel
theorem dX8_deal_6 : decode cX8_deal 6 = .ok (.sipush 400, 3) := by decide +kernel
theorem dX8_deal_9 : decode cX8_deal 9 = .ok (.if_icmp .gt 33, 3) := by decide +kernel
theorem dX8_deal_12 : decode cX8_deal 12 = .ok (.iload_n 2, 1) := by decide +kernel
theorem dX8_deal_13 : decode cX8_deal 13 = .ok (.ifCond .lt 29, 3) := by decide +kernel
theorem dX8_deal_16 : decode cX8_deal 16 = .ok (.iload_n 2, 1) := by decide +kernel
theorem dX8_deal_17 : decode cX8_deal 17 = .ok (.sipush 400, 3) := by decide +kernel
theorem dX8_deal_20 : decode cX8_deal 20 = .ok (.if_icmp .gt 22, 3) := by decide +kernel
theorem dX8_deal_23 : decode cX8_deal 23 = .ok (.iload_n 3, 1) := by decide +kernel
theorem dX8_deal_24 : decode cX8_deal 24 = .ok (.ifCond .lt 18, 3) := by decide +kernel
theorem dX8_deal_27 : decode cX8_deal 27 = .ok (.iload_n 3, 1) := by decide +kernel
theorem dX8_deal_28 : decode cX8_deal 28 = .ok (.sipush 400, 3) := by decide +kernel
theorem dX8_deal_31 : decode cX8_deal 31 = .ok (.if_icmp .gt 11, 3) := by decide +kernel
theorem dX8_deal_34 : decode cX8_deal 34 = .ok (.iload_n 2, 1) := by decide +kernel
theorem dX8_deal_35 : decode cX8_deal 35 = .ok (.ifCond .ne 9, 3) := by decide +kernel
theorem dX8_deal_38 : decode cX8_deal 38 = .ok (.iload_n 3, 1) := by decide +kernel
theorem dX8_deal_39 : decode cX8_deal 39 = .ok (.ifCond .eq 5, 3) := by decide +kernel
theorem dX8_deal_42 : decode cX8_deal 42 = .ok (.iconst (-1), 1) := by decide +kernel
theorem dX8_deal_43 : decode cX8_deal 43 = .ok (.ireturn, 1) := by decide +kernel
theorem dX8_deal_44 : decode cX8_deal 44 = .ok (.iload_n 2, 1) := by decide +kernel
theorem dX8_deal_45 : decode cX8_deal 45 = .ok (.ifCond .ne 7, 3) := by decide +kernel
theorem dX8_deal_48 : decode cX8_deal 48 = .ok (.iconst 1, 1) := by decide +kernel
theorem dX8_deal_49 : decode cX8_deal 49 = .ok (.goto 12, 3) := by decide +kernel
theorem dX8_deal_52 : decode cX8_deal 52 = .ok (.iload_n 3, 1) := by decide +kernel
theorem dX8_deal_53 : decode cX8_deal 53 = .ok (.ifCond .ne 7, 3) := by decide +kernel
theorem dX8_deal_56 : decode cX8_deal 56 = .ok (.iconst 2, 1) := by decide +kernel
theorem dX8_deal_57 : decode cX8_deal 57 = .ok (.goto 4, 3) := by decide +kernel
theorem dX8_deal_60 : decode cX8_deal 60 = .ok (.iconst 3, 1) := by decide +kernel
theorem dX8_deal_61 : decode cX8_deal 61 = .ok (.istore 4, 2) := by decide +kernel
theorem dX8_deal_63 : decode cX8_deal 63 = .ok (.aload_n 0, 1) := by decide +kernel
theorem dX8_deal_64 : decode cX8_deal 64 = .ok (.getfield 65, 3) := by decide +kernel
theorem dX8_deal_67 : decode cX8_deal 67 = .ok (.getfield 275, 3) := by decide +kernel
theorem dX8_deal_70 : decode cX8_deal 70 = .ok (.iconst 3, 1) := by decide +kernel
theorem dX8_deal_71 : decode cX8_deal 71 = .ok (.iload 4, 2) := by decide +kernel
theorem dX8_deal_73 : decode cX8_deal 73 = .ok (.imul, 1) := by decide +kernel
theorem dX8_deal_74 : decode cX8_deal 74 = .ok (.if_icmp .ge 6, 3) := by decide +kernel
theorem dX8_deal_77 : decode cX8_deal 77 = .ok (.bipush (-4), 2) := by decide +kernel
theorem dX8_deal_79 : decode cX8_deal 79 = .ok (.ireturn, 1) := by decide +kernel
theorem dX8_dealt_0 : decode cX8_dealt 0 = .ok (.iload_n 1, 1) := by decide +kernel
theorem dX8_dealt_1 : decode cX8_dealt 1 = .ok (.ifCond .lt 14, 3) := by decide +kernel
theorem dX8_dealt_4 : decode cX8_dealt 4 = .ok (.iload_n 1, 1) := by decide +kernel
theorem dX8_dealt_5 : decode cX8_dealt 5 = .ok (.aload_n 0, 1) := by decide +kernel
theorem dX8_dealt_6 : decode cX8_dealt 6 = .ok (.getfield 65, 3) := by decide +kernel
theorem dX8_dealt_9 : decode cX8_dealt 9 = .ok (.getfield 282, 3) := by decide +kernel
theorem dX8_dealt_12 : decode cX8_dealt 12 = .ok (.if_icmp .lt 8, 3) := by decide +kernel
theorem dX8_dealt_15 : decode cX8_dealt 15 = .ok (.ldc 110, 2) := by decide +kernel
theorem dX8_dealt_17 : decode cX8_dealt 17 = .ok (.goto 12, 3) := by decide +kernel
theorem dX8_dealt_29 : decode cX8_dealt 29 = .ok (.ireturn, 1) := by decide +kernel
theorem dX8_doubt_0 : decode cX8_doubt 0 = .ok (.iload_n 1, 1) := by decide +kernel
theorem dX8_doubt_1 : decode cX8_doubt 1 = .ok (.iconst 1, 1) := by decide +kernel
theorem dX8_doubt_2 : decode cX8_doubt 2 = .ok (.if_icmp .lt 10, 3) := by decide +kernel
theorem dX8_doubt_5 : decode cX8_doubt 5 = .ok (.iload_n 1, 1) := by decide +kernel
theorem dX8_doubt_6 : decode cX8_doubt 6 = .ok (.sipush 9999, 3) := by decide +kernel
theorem dX8_doubt_9 : decode cX8_doubt 9 = .ok (.if_icmp .le 5, 3) := by decide +kernel
theorem dX8_doubt_12 : decode cX8_doubt 12 = .ok (.iconst (-1), 1) := by decide +kernel
theorem dX8_doubt_13 : decode cX8_doubt 13 = .ok (.ireturn, 1) := by decide +kernel
theorem dX8_doubt_14 : decode cX8_doubt 14 = .ok (.aload_n 0, 1) := by decide +kernel
theorem dX8_doubt_15 : decode cX8_doubt 15 = .ok (.getfield 65, 3) := by decide +kernel
theorem dX8_doubt_18 : decode cX8_doubt 18 = .ok (.getfield 275, 3) := by decide +kernel
theorem dX8_doubt_21 : decode cX8_doubt 21 = .ok (.bipush 9, 2) := by decide +kernel
theorem dX8_doubt_23 : decode cX8_doubt 23 = .ok (.if_icmp .lt 6, 3) := by decide +kernel
theorem dX8_doubt_29 : decode cX8_doubt 29 = .ok (.aload_n 0, 1) := by decide +kernel
theorem dX8_doubt_30 : decode cX8_doubt 30 = .ok (.getfield 65, 3) := by decide +kernel
theorem dX8_doubt_33 : decode cX8_doubt 33 = .ok (.iload_n 1, 1) := by decide +kernel
theorem dX8_doubt_34 : decode cX8_doubt 34 = .ok (.invokevirtual 278, 3) := by decide +kernel
theorem dX8_doubt_37 : decode cX8_doubt 37 = .ok (.aload_n 0, 1) := by decide +kernel
theorem dX8_doubt_38 : decode cX8_doubt 38 = .ok (.getfield 65, 3) := by decide +kernel
theorem dX8_doubt_41 : decode cX8_doubt 41 = .ok (.getfield 275, 3) := by decide +kernel
theorem dX8_doubt_44 : decode cX8_doubt 44 = .ok (.ireturn, 1) := by decide +kernel
theorem dX8_error_0 : decode cX8_error 0 = .ok (.aload_n 0, 1) := by decide +kernel
theorem dX8_error_1 : decode cX8_error 1 = .ok (.iload_n 1, 1) := by decide +kernel
theorem dX8_error_2 : decode cX8_error 2 = .ok (.invokevirtual 102, 3) := by decide +kernel
theorem dX8_error_5 : decode cX8_error 5 = .ok (.astore 4, 2) := by decide +kernel
theorem dX8_error_7 : decode cX8_error 7 = .ok (.aload 4, 2) := by decide +kernel
theorem dX8_error_9 : decode cX8_error 9 = .ok (.ifnull 17, 3) := by decide +kernel
theorem dX8_error_26 : decode cX8_error 26 = .ok (.ldc 110, 2) := by decide +kernel
theorem dX8_error_28 : decode cX8_error 28 = .ok (.ireturn, 1) := by decide +kernel
theorem dX8_feed_0 : decode cX8_feed 0 = .ok (.iload_n 1, 1) := by decide +kernel
theorem dX8_feed_1 : decode cX8_feed 1 = .ok (.iconst 1, 1) := by decide +kernel
theorem dX8_feed_2 : decode cX8_feed 2 = .ok (.if_icmp .lt 8, 3) := by decide +kernel
theorem dX8_feed_5 : decode cX8_feed 5 = .ok (.iload_n 1, 1) := by decide +kernel
theorem dX8_feed_6 : decode cX8_feed 6 = .ok (.iconst 4, 1) := by decide +kernel
theorem dX8_feed_7 : decode cX8_feed 7 = .ok (.if_icmp .le 5, 3) := by decide +kernel
theorem dX8_feed_10 : decode cX8_feed 10 = .ok (.iconst (-1), 1) := by decide +kernel
theorem dX8_feed_11 : decode cX8_feed 11 = .ok (.ireturn, 1) := by decide +kernel
theorem dX8_feed_12 : decode cX8_feed 12 = .ok (.aload_n 0, 1) := by decide +kernel
theorem dX8_feed_13 : decode cX8_feed 13 = .ok (.getfield 58, 3) := by decide +kernel
theorem dX8_feed_16 : decode cX8_feed 16 = .ok (.getfield 179, 3) := by decide +kernel
theorem dX8_feed_19 : decode cX8_feed 19 = .ok (.iload_n 1, 1) := by decide +kernel
theorem dX8_feed_20 : decode cX8_feed 20 = .ok (.iadd, 1) := by decide +kernel
theorem dX8_feed_21 : decode cX8_feed 21 = .ok (.bipush 120, 2) := by decide +kernel
theorem dX8_feed_23 : decode cX8_feed 23 = .ok (.if_icmp .le 6, 3) := by decide +kernel
theorem dX8_feed_29 : decode cX8_feed 29 = .ok (.iconst 0, 1) := by decide +kernel
theorem dX8_feed_30 : decode cX8_feed 30 = .ok (.istore_n 3, 1) := by decide +kernel
theorem dX8_feed_31 : decode cX8_feed 31 = .ok (.iload_n 3, 1) := by decide +kernel
theorem dX8_feed_32 : decode cX8_feed 32 = .ok (.iload_n 1, 1) := by decide +kernel
theorem dX8_feed_33 : decode cX8_feed 33 = .ok (.if_icmp .ge 26, 3) := by decide +kernel
theorem dX8_feed_36 : decode cX8_feed 36 = .ok (.aload_n 0, 1) := by decide +kernel
theorem dX8_feed_37 : decode cX8_feed 37 = .ok (.getfield 58, 3) := by decide +kernel
theorem dX8_feed_40 : decode cX8_feed 40 = .ok (.iload_n 2, 1) := by decide +kernel
theorem dX8_feed_41 : decode cX8_feed 41 = .ok (.bipush 8, 2) := by decide +kernel
theorem dX8_feed_43 : decode cX8_feed 43 = .ok (.iload_n 3, 1) := by decide +kernel
theorem dX8_feed_44 : decode cX8_feed 44 = .ok (.imul, 1) := by decide +kernel
theorem dX8_feed_45 : decode cX8_feed 45 = .ok (.ishr, 1) := by decide +kernel
theorem dX8_feed_46 : decode cX8_feed 46 = .ok (.sipush 255, 3) := by decide +kernel
theorem dX8_feed_49 : decode cX8_feed 49 = .ok (.iand, 1) := by decide +kernel
theorem dX8_feed_50 : decode cX8_feed 50 = .ok (.invokevirtual 180, 3) := by decide +kernel
theorem dX8_feed_53 : decode cX8_feed 53 = .ok (.iinc 3 1, 3) := by decide +kernel
theorem dX8_feed_56 : decode cX8_feed 56 = .ok (.goto (-25), 3) := by decide +kernel
theorem dX8_feed_59 : decode cX8_feed 59 = .ok (.aload_n 0, 1) := by decide +kernel
theorem dX8_feed_60 : decode cX8_feed 60 = .ok (.getfield 58, 3) := by decide +kernel
theorem dX8_feed_63 : decode cX8_feed 63 = .ok (.getfield 179, 3) := by decide +kernel
theorem dX8_feed_66 : decode cX8_feed 66 = .ok (.ireturn, 1) := by decide +kernel
theorem dX8_firstLack_0 : decode cX8_firstLack 0 = .ok (.aload_n 0, 1) := by decide +kernel
theorem dX8_firstLack_1 : decode cX8_firstLack 1 = .ok (.iload_n 1, 1) := by decide +kernel
theorem dX8_firstLack_2 : decode cX8_firstLack 2 = .ok (.invokevirtual 102, 3) := by decide +kernel
theorem dX8_firstLack_5 : decode cX8_firstLack 5 = .ok (.ifnonnull 9, 3) := by decide +kernel
theorem dX8_firstLack_8 : decode cX8_firstLack 8 = .ok (.aload_n 0, 1) := by decide +kernel
theorem dX8_firstLack_9 : decode cX8_firstLack 9 = .ok (.iload_n 1, 1) := by decide +kernel
theorem dX8_firstLack_10 : decode cX8_firstLack 10 = .ok (.invokevirtual 115, 3) := by decide +kernel
theorem dX8_firstLack_13 : decode cX8_firstLack 13 = .ok (.ireturn, 1) := by decide +kernel
theorem dX8_fitsKind_0 : decode cX8_fitsKind 0 = .ok (.iload_n 0, 1) := by decide +kernel
theorem dX8_fitsKind_1 : decode cX8_fitsKind 1 = .ok (.ifCond .ne 7, 3) := by decide +kernel
theorem dX8_fitsKind_4 : decode cX8_fitsKind 4 = .ok (.iload_n 1, 1) := by decide +kernel
theorem dX8_fitsKind_5 : decode cX8_fitsKind 5 = .ok (.ifCond .eq 22, 3) := by decide +kernel
theorem dX8_fitsKind_8 : decode cX8_fitsKind 8 = .ok (.iload_n 0, 1) := by decide +kernel
theorem dX8_fitsKind_9 : decode cX8_fitsKind 9 = .ok (.iconst 1, 1) := by decide +kernel
theorem dX8_fitsKind_10 : decode cX8_fitsKind 10 = .ok (.if_icmp .ne 12, 3) := by decide +kernel
theorem dX8_fitsKind_13 : decode cX8_fitsKind 13 = .ok (.iload_n 1, 1) := by decide +kernel
theorem dX8_fitsKind_14 : decode cX8_fitsKind 14 = .ok (.bipush 50, 2) := by decide +kernel
theorem dX8_fitsKind_16 : decode cX8_fitsKind 16 = .ok (.invokestatic 88, 3) := by decide +kernel
theorem dX8_fitsKind_19 : decode cX8_fitsKind 19 = .ok (.ifCond .ne 8, 3) := by decide +kernel
theorem dX8_fitsKind_22 : decode cX8_fitsKind 22 = .ok (.iload_n 0, 1) := by decide +kernel
theorem dX8_fitsKind_23 : decode cX8_fitsKind 23 = .ok (.iconst 2, 1) := by decide +kernel
theorem dX8_fitsKind_24 : decode cX8_fitsKind 24 = .ok (.if_icmp .ne 7, 3) := by decide +kernel
theorem dX8_fitsKind_27 : decode cX8_fitsKind 27 = .ok (.iconst 1, 1) := by decide +kernel
theorem dX8_fitsKind_28 : decode cX8_fitsKind 28 = .ok (.goto 4, 3) := by decide +kernel
theorem dX8_fitsKind_31 : decode cX8_fitsKind 31 = .ok (.iconst 0, 1) := by decide +kernel
theorem dX8_fitsKind_32 : decode cX8_fitsKind 32 = .ok (.ireturn, 1) := by decide +kernel
theorem dX8_foretold_0 : decode cX8_foretold 0 = .ok (.aload_n 0, 1) := by decide +kernel
theorem dX8_foretold_1 : decode cX8_foretold 1 = .ok (.iload_n 1, 1) := by decide +kernel
theorem dX8_foretold_2 : decode cX8_foretold 2 = .ok (.iload_n 2, 1) := by decide +kernel
theorem dX8_foretold_3 : decode cX8_foretold 3 = .ok (.iload_n 3, 1) := by decide +kernel
theorem dX8_foretold_4 : decode cX8_foretold 4 = .ok (.invokevirtual 152, 3) := by decide +kernel
theorem dX8_foretold_7 : decode cX8_foretold 7 = .ok (.ifCond .ne 21, 3) := by decide +kernel
theorem dX8_foretold_28 : decode cX8_foretold 28 = .ok (.ldc 110, 2) := by decide +kernel
theorem dX8_foretold_30 : decode cX8_foretold 30 = .ok (.ireturn, 1) := by decide +kernel
theorem dX8_holder_0 : decode cX8_holder 0 = .ok (.aload_n 0, 1) := by decide +kernel
theorem dX8_holder_1 : decode cX8_holder 1 = .ok (.iload_n 1, 1) := by decide +kernel
theorem dX8_holder_2 : decode cX8_holder 2 = .ok (.invokevirtual 102, 3) := by decide +kernel
theorem dX8_holder_5 : decode cX8_holder 5 = .ok (.astore_n 3, 1) := by decide +kernel
theorem dX8_holder_6 : decode cX8_holder 6 = .ok (.aload_n 3, 1) := by decide +kernel
theorem dX8_holder_7 : decode cX8_holder 7 = .ok (.ifnull 11, 3) := by decide +kernel
theorem dX8_holder_18 : decode cX8_holder 18 = .ok (.ldc 110, 2) := by decide +kernel
theorem dX8_holder_20 : decode cX8_holder 20 = .ok (.goto 8, 3) := by decide +kernel
theorem dX8_holder_28 : decode cX8_holder 28 = .ok (.ireturn, 1) := by decide +kernel
theorem dX8_holds_0 : decode cX8_holds 0 = .ok (.iload_n 1, 1) := by decide +kernel
theorem dX8_holds_1 : decode cX8_holds 1 = .ok (.invokestatic 92, 3) := by decide +kernel
theorem dX8_holds_4 : decode cX8_holds 4 = .ok (.ifCond .eq 12, 3) := by decide +kernel
theorem dX8_holds_7 : decode cX8_holds 7 = .ok (.aload_n 0, 1) := by decide +kernel
theorem dX8_holds_8 : decode cX8_holds 8 = .ok (.getfield 13, 3) := by decide +kernel
theorem dX8_holds_11 : decode cX8_holds 11 = .ok (.iload_n 1, 1) := by decide +kernel
theorem dX8_holds_12 : decode cX8_holds 12 = .ok (.iaload, 1) := by decide +kernel
theorem dX8_holds_13 : decode cX8_holds 13 = .ok (.goto 4, 3) := by decide +kernel
theorem dX8_holds_16 : decode cX8_holds 16 = .ok (.iconst (-1), 1) := by decide +kernel
theorem dX8_holds_17 : decode cX8_holds 17 = .ok (.ireturn, 1) := by decide +kernel
theorem dX8_home_0 : decode cX8_home 0 = .ok (.iload_n 1, 1) := by decide +kernel
theorem dX8_home_1 : decode cX8_home 1 = .ok (.invokestatic 92, 3) := by decide +kernel
theorem dX8_home_4 : decode cX8_home 4 = .ok (.ifCond .ne 5, 3) := by decide +kernel
theorem dX8_home_7 : decode cX8_home 7 = .ok (.iconst (-1), 1) := by decide +kernel
theorem dX8_home_8 : decode cX8_home 8 = .ok (.ireturn, 1) := by decide +kernel
theorem dX8_home_9 : decode cX8_home 9 = .ok (.aload_n 0, 1) := by decide +kernel
theorem dX8_home_10 : decode cX8_home 10 = .ok (.iload_n 1, 1) := by decide +kernel
theorem dX8_home_11 : decode cX8_home 11 = .ok (.invokevirtual 102, 3) := by decide +kernel
theorem dX8_home_14 : decode cX8_home 14 = .ok (.astore_n 2, 1) := by decide +kernel
theorem dX8_home_15 : decode cX8_home 15 = .ok (.aload_n 2, 1) := by decide +kernel
theorem dX8_home_16 : decode cX8_home 16 = .ok (.ifnonnull 9, 3) := by decide +kernel
theorem dX8_home_19 : decode cX8_home 19 = .ok (.aload_n 0, 1) := by decide +kernel
theorem dX8_home_20 : decode cX8_home 20 = .ok (.iload_n 1, 1) := by decide +kernel
theorem dX8_home_21 : decode cX8_home 21 = .ok (.invokevirtual 115, 3) := by decide +kernel
theorem dX8_home_24 : decode cX8_home 24 = .ok (.ireturn, 1) := by decide +kernel
theorem dX8_init_0 : decode cX8_init 0 = .ok (.aload_n 0, 1) := by decide +kernel
theorem dX8_init_1 : decode cX8_init 1 = .ok (.invokespecial 1, 3) := by decide +kernel
theorem dX8_init_4 : decode cX8_init 4 = .ok (.aload_n 0, 1) := by decide +kernel
theorem dX8_init_5 : decode cX8_init 5 = .ok (.sipush 400, 3) := by decide +kernel
theorem dX8_init_8 : decode cX8_init 8 = .ok (.newarray .int, 2) := by decide +kernel
theorem dX8_init_10 : decode cX8_init 10 = .ok (.putfield 9, 3) := by decide +kernel
theorem dX8_init_13 : decode cX8_init 13 = .ok (.aload_n 0, 1) := by decide +kernel
theorem dX8_init_14 : decode cX8_init 14 = .ok (.bipush 16, 2) := by decide +kernel
theorem dX8_init_16 : decode cX8_init 16 = .ok (.newarray .int, 2) := by decide +kernel
theorem dX8_init_18 : decode cX8_init 18 = .ok (.putfield 13, 3) := by decide +kernel
theorem dX8_init_21 : decode cX8_init 21 = .ok (.aload_n 0, 1) := by decide +kernel
theorem dX8_init_22 : decode cX8_init 22 = .ok (.bipush 16, 2) := by decide +kernel
theorem dX8_init_24 : decode cX8_init 24 = .ok (.newarray .int, 2) := by decide +kernel
theorem dX8_init_26 : decode cX8_init 26 = .ok (.putfield 16, 3) := by decide +kernel
theorem dX8_init_29 : decode cX8_init 29 = .ok (.aload_n 0, 1) := by decide +kernel
theorem dX8_init_30 : decode cX8_init 30 = .ok (.bipush 16, 2) := by decide +kernel
theorem dX8_init_32 : decode cX8_init 32 = .ok (.anewarray 19, 3) := by decide +kernel
theorem dX8_init_35 : decode cX8_init 35 = .ok (.putfield 21, 3) := by decide +kernel
theorem dX8_init_38 : decode cX8_init 38 = .ok (.aload_n 0, 1) := by decide +kernel
theorem dX8_init_39 : decode cX8_init 39 = .ok (.iconst 5, 1) := by decide +kernel
theorem dX8_init_40 : decode cX8_init 40 = .ok (.anewarray 25, 3) := by decide +kernel
theorem dX8_init_43 : decode cX8_init 43 = .ok (.putfield 27, 3) := by decide +kernel
theorem dX8_init_46 : decode cX8_init 46 = .ok (.aload_n 0, 1) := by decide +kernel
theorem dX8_init_47 : decode cX8_init 47 = .ok (.bipush 9, 2) := by decide +kernel
theorem dX8_init_49 : decode cX8_init 49 = .ok (.newarray .int, 2) := by decide +kernel
theorem dX8_init_51 : decode cX8_init 51 = .ok (.putfield 31, 3) := by decide +kernel
theorem dX8_init_54 : decode cX8_init 54 = .ok (.aload_n 0, 1) := by decide +kernel
theorem dX8_init_55 : decode cX8_init 55 = .ok (.new 34, 3) := by decide +kernel
theorem dX8_init_58 : decode cX8_init 58 = .ok (.dup, 1) := by decide +kernel
theorem dX8_init_59 : decode cX8_init 59 = .ok (.invokespecial 36, 3) := by decide +kernel
theorem dX8_init_62 : decode cX8_init 62 = .ok (.putfield 37, 3) := by decide +kernel
theorem dX8_init_65 : decode cX8_init 65 = .ok (.aload_n 0, 1) := by decide +kernel
theorem dX8_init_66 : decode cX8_init 66 = .ok (.new 41, 3) := by decide +kernel
theorem dX8_init_69 : decode cX8_init 69 = .ok (.dup, 1) := by decide +kernel
theorem dX8_init_70 : decode cX8_init 70 = .ok (.invokespecial 43, 3) := by decide +kernel
theorem dX8_init_73 : decode cX8_init 73 = .ok (.putfield 44, 3) := by decide +kernel
theorem dX8_init_76 : decode cX8_init 76 = .ok (.aload_n 0, 1) := by decide +kernel
theorem dX8_init_77 : decode cX8_init 77 = .ok (.new 48, 3) := by decide +kernel
theorem dX8_init_80 : decode cX8_init 80 = .ok (.dup, 1) := by decide +kernel
theorem dX8_init_81 : decode cX8_init 81 = .ok (.invokespecial 50, 3) := by decide +kernel
theorem dX8_init_84 : decode cX8_init 84 = .ok (.putfield 51, 3) := by decide +kernel
theorem dX8_init_87 : decode cX8_init 87 = .ok (.aload_n 0, 1) := by decide +kernel
theorem dX8_init_88 : decode cX8_init 88 = .ok (.new 55, 3) := by decide +kernel
theorem dX8_init_91 : decode cX8_init 91 = .ok (.dup, 1) := by decide +kernel
theorem dX8_init_92 : decode cX8_init 92 = .ok (.invokespecial 57, 3) := by decide +kernel
theorem dX8_init_95 : decode cX8_init 95 = .ok (.putfield 58, 3) := by decide +kernel
theorem dX8_init_98 : decode cX8_init 98 = .ok (.aload_n 0, 1) := by decide +kernel
theorem dX8_init_99 : decode cX8_init 99 = .ok (.new 62, 3) := by decide +kernel
theorem dX8_init_102 : decode cX8_init 102 = .ok (.dup, 1) := by decide +kernel
theorem dX8_init_103 : decode cX8_init 103 = .ok (.invokespecial 64, 3) := by decide +kernel
theorem dX8_init_106 : decode cX8_init 106 = .ok (.putfield 65, 3) := by decide +kernel
theorem dX8_init_109 : decode cX8_init 109 = .ok (.aload_n 0, 1) := by decide +kernel
theorem dX8_init_110 : decode cX8_init 110 = .ok (.new 69, 3) := by decide +kernel
theorem dX8_init_113 : decode cX8_init 113 = .ok (.dup, 1) := by decide +kernel
theorem dX8_init_114 : decode cX8_init 114 = .ok (.invokespecial 71, 3) := by decide +kernel
theorem dX8_init_117 : decode cX8_init 117 = .ok (.putfield 72, 3) := by decide +kernel
theorem dX8_init_120 : decode cX8_init 120 = .ok (.aload_n 0, 1) := by decide +kernel
theorem dX8_init_121 : decode cX8_init 121 = .ok (.new 69, 3) := by decide +kernel
theorem dX8_init_124 : decode cX8_init 124 = .ok (.dup, 1) := by decide +kernel
theorem dX8_init_125 : decode cX8_init 125 = .ok (.invokespecial 71, 3) := by decide +kernel
theorem dX8_init_128 : decode cX8_init 128 = .ok (.putfield 76, 3) := by decide +kernel
theorem dX8_init_131 : decode cX8_init 131 = .ok (.aload_n 0, 1) := by decide +kernel
theorem dX8_init_132 : decode cX8_init 132 = .ok (.iconst 0, 1) := by decide +kernel
theorem dX8_init_133 : decode cX8_init 133 = .ok (.putfield 79, 3) := by decide +kernel
theorem dX8_init_136 : decode cX8_init 136 = .ok (.iconst 0, 1) := by decide +kernel
theorem dX8_init_137 : decode cX8_init 137 = .ok (.istore_n 1, 1) := by decide +kernel
theorem dX8_init_138 : decode cX8_init 138 = .ok (.iload_n 1, 1) := by decide +kernel
theorem dX8_init_139 : decode cX8_init 139 = .ok (.sipush 400, 3) := by decide +kernel
theorem dX8_init_142 : decode cX8_init 142 = .ok (.if_icmp .ge 17, 3) := by decide +kernel
theorem dX8_init_145 : decode cX8_init 145 = .ok (.aload_n 0, 1) := by decide +kernel
theorem dX8_init_146 : decode cX8_init 146 = .ok (.getfield 9, 3) := by decide +kernel
theorem dX8_init_149 : decode cX8_init 149 = .ok (.iload_n 1, 1) := by decide +kernel
theorem dX8_init_150 : decode cX8_init 150 = .ok (.bipush (-100), 2) := by decide +kernel
theorem dX8_init_152 : decode cX8_init 152 = .ok (.iastore, 1) := by decide +kernel
theorem dX8_init_153 : decode cX8_init 153 = .ok (.iinc 1 1, 3) := by decide +kernel
theorem dX8_init_156 : decode cX8_init 156 = .ok (.goto (-18), 3) := by decide +kernel
theorem dX8_init_159 : decode cX8_init 159 = .ok (.iconst 0, 1) := by decide +kernel
theorem dX8_init_160 : decode cX8_init 160 = .ok (.istore_n 1, 1) := by decide +kernel
theorem dX8_init_161 : decode cX8_init 161 = .ok (.iload_n 1, 1) := by decide +kernel
theorem dX8_init_162 : decode cX8_init 162 = .ok (.bipush 16, 2) := by decide +kernel
theorem dX8_init_164 : decode cX8_init 164 = .ok (.if_icmp .ge 17, 3) := by decide +kernel
theorem dX8_init_167 : decode cX8_init 167 = .ok (.aload_n 0, 1) := by decide +kernel
theorem dX8_init_168 : decode cX8_init 168 = .ok (.getfield 13, 3) := by decide +kernel
theorem dX8_init_171 : decode cX8_init 171 = .ok (.iload_n 1, 1) := by decide +kernel
theorem dX8_init_172 : decode cX8_init 172 = .ok (.bipush (-5), 2) := by decide +kernel
theorem dX8_init_174 : decode cX8_init 174 = .ok (.iastore, 1) := by decide +kernel
theorem dX8_init_175 : decode cX8_init 175 = .ok (.iinc 1 1, 3) := by decide +kernel
theorem dX8_init_178 : decode cX8_init 178 = .ok (.goto (-17), 3) := by decide +kernel
theorem dX8_init_181 : decode cX8_init 181 = .ok (.iconst 0, 1) := by decide +kernel
theorem dX8_init_182 : decode cX8_init 182 = .ok (.istore_n 1, 1) := by decide +kernel
theorem dX8_init_183 : decode cX8_init 183 = .ok (.iload_n 1, 1) := by decide +kernel
theorem dX8_init_184 : decode cX8_init 184 = .ok (.iconst 5, 1) := by decide +kernel
theorem dX8_init_185 : decode cX8_init 185 = .ok (.if_icmp .ge 22, 3) := by decide +kernel
theorem dX8_init_188 : decode cX8_init 188 = .ok (.aload_n 0, 1) := by decide +kernel
theorem dX8_init_189 : decode cX8_init 189 = .ok (.getfield 27, 3) := by decide +kernel
theorem dX8_init_192 : decode cX8_init 192 = .ok (.iload_n 1, 1) := by decide +kernel
theorem dX8_init_193 : decode cX8_init 193 = .ok (.new 25, 3) := by decide +kernel
theorem dX8_init_196 : decode cX8_init 196 = .ok (.dup, 1) := by decide +kernel
theorem dX8_init_197 : decode cX8_init 197 = .ok (.invokespecial 83, 3) := by decide +kernel
theorem dX8_init_200 : decode cX8_init 200 = .ok (.aastore, 1) := by decide +kernel
theorem dX8_init_201 : decode cX8_init 201 = .ok (.iinc 1 1, 3) := by decide +kernel
theorem dX8_init_204 : decode cX8_init 204 = .ok (.goto (-21), 3) := by decide +kernel
theorem dX8_init_207 : decode cX8_init 207 = .ok (.return_, 1) := by decide +kernel
theorem dX8_isDay_0 : decode cX8_isDay 0 = .ok (.iload_n 0, 1) := by decide +kernel
theorem dX8_isDay_1 : decode cX8_isDay 1 = .ok (.ifCond .lt 14, 3) := by decide +kernel
theorem dX8_isDay_4 : decode cX8_isDay 4 = .ok (.iload_n 0, 1) := by decide +kernel
theorem dX8_isDay_5 : decode cX8_isDay 5 = .ok (.sipush 400, 3) := by decide +kernel
theorem dX8_isDay_8 : decode cX8_isDay 8 = .ok (.if_icmp .ge 7, 3) := by decide +kernel
theorem dX8_isDay_11 : decode cX8_isDay 11 = .ok (.iconst 1, 1) := by decide +kernel
theorem dX8_isDay_12 : decode cX8_isDay 12 = .ok (.goto 4, 3) := by decide +kernel
theorem dX8_isDay_15 : decode cX8_isDay 15 = .ok (.iconst 0, 1) := by decide +kernel
theorem dX8_isDay_16 : decode cX8_isDay 16 = .ok (.ireturn, 1) := by decide +kernel
theorem dX8_isKnowledge_0 : decode cX8_isKnowledge 0 = .ok (.iload_n 0, 1) := by decide +kernel
theorem dX8_isKnowledge_1 : decode cX8_isKnowledge 1 = .ok (.iconst (-1), 1) := by decide +kernel
theorem dX8_isKnowledge_2 : decode cX8_isKnowledge 2 = .ok (.if_icmp .eq 10, 3) := by decide +kernel
theorem dX8_isKnowledge_5 : decode cX8_isKnowledge 5 = .ok (.iload_n 0, 1) := by decide +kernel
theorem dX8_isKnowledge_6 : decode cX8_isKnowledge 6 = .ok (.invokestatic 84, 3) := by decide +kernel
theorem dX8_isKnowledge_9 : decode cX8_isKnowledge 9 = .ok (.ifCond .eq 7, 3) := by decide +kernel
theorem dX8_isKnowledge_12 : decode cX8_isKnowledge 12 = .ok (.iconst 1, 1) := by decide +kernel
theorem dX8_isKnowledge_13 : decode cX8_isKnowledge 13 = .ok (.goto 4, 3) := by decide +kernel
theorem dX8_isKnowledge_16 : decode cX8_isKnowledge 16 = .ok (.iconst 0, 1) := by decide +kernel
theorem dX8_isKnowledge_17 : decode cX8_isKnowledge 17 = .ok (.ireturn, 1) := by decide +kernel
theorem dX8_isPast_0 : decode cX8_isPast 0 = .ok (.iload_n 1, 1) := by decide +kernel
theorem dX8_isPast_1 : decode cX8_isPast 1 = .ok (.ifCond .lt 15, 3) := by decide +kernel
theorem dX8_isPast_4 : decode cX8_isPast 4 = .ok (.iload_n 1, 1) := by decide +kernel
theorem dX8_isPast_5 : decode cX8_isPast 5 = .ok (.aload_n 0, 1) := by decide +kernel
theorem dX8_isPast_6 : decode cX8_isPast 6 = .ok (.getfield 79, 3) := by decide +kernel
theorem dX8_isPast_9 : decode cX8_isPast 9 = .ok (.if_icmp .gt 7, 3) := by decide +kernel
theorem dX8_isPast_12 : decode cX8_isPast 12 = .ok (.iconst 1, 1) := by decide +kernel
theorem dX8_isPast_13 : decode cX8_isPast 13 = .ok (.goto 4, 3) := by decide +kernel
theorem dX8_isPast_16 : decode cX8_isPast 16 = .ok (.iconst 0, 1) := by decide +kernel
theorem dX8_isPast_17 : decode cX8_isPast 17 = .ok (.ireturn, 1) := by decide +kernel
theorem dX8_isPlace_0 : decode cX8_isPlace 0 = .ok (.iload_n 0, 1) := by decide +kernel
theorem dX8_isPlace_1 : decode cX8_isPlace 1 = .ok (.ifCond .lt 13, 3) := by decide +kernel
theorem dX8_isPlace_4 : decode cX8_isPlace 4 = .ok (.iload_n 0, 1) := by decide +kernel
theorem dX8_isPlace_5 : decode cX8_isPlace 5 = .ok (.bipush 16, 2) := by decide +kernel
theorem dX8_isPlace_7 : decode cX8_isPlace 7 = .ok (.if_icmp .ge 7, 3) := by decide +kernel
theorem dX8_isPlace_10 : decode cX8_isPlace 10 = .ok (.iconst 1, 1) := by decide +kernel
theorem dX8_isPlace_11 : decode cX8_isPlace 11 = .ok (.goto 4, 3) := by decide +kernel
theorem dX8_isPlace_14 : decode cX8_isPlace 14 = .ok (.iconst 0, 1) := by decide +kernel
theorem dX8_isPlace_15 : decode cX8_isPlace 15 = .ok (.ireturn, 1) := by decide +kernel
theorem dX8_isShip_0 : decode cX8_isShip 0 = .ok (.iload_n 0, 1) := by decide +kernel
theorem dX8_isShip_1 : decode cX8_isShip 1 = .ok (.ifCond .lt 12, 3) := by decide +kernel
theorem dX8_isShip_4 : decode cX8_isShip 4 = .ok (.iload_n 0, 1) := by decide +kernel
theorem dX8_isShip_5 : decode cX8_isShip 5 = .ok (.iconst 5, 1) := by decide +kernel
theorem dX8_isShip_6 : decode cX8_isShip 6 = .ok (.if_icmp .ge 7, 3) := by decide +kernel
theorem dX8_isShip_9 : decode cX8_isShip 9 = .ok (.iconst 1, 1) := by decide +kernel
theorem dX8_isShip_10 : decode cX8_isShip 10 = .ok (.goto 4, 3) := by decide +kernel
theorem dX8_isShip_13 : decode cX8_isShip 13 = .ok (.iconst 0, 1) := by decide +kernel
theorem dX8_isShip_14 : decode cX8_isShip 14 = .ok (.ireturn, 1) := by decide +kernel
theorem dX8_isStretch_0 : decode cX8_isStretch 0 = .ok (.iload_n 0, 1) := by decide +kernel
theorem dX8_isStretch_1 : decode cX8_isStretch 1 = .ok (.invokestatic 84, 3) := by decide +kernel
theorem dX8_isStretch_4 : decode cX8_isStretch 4 = .ok (.ifCond .eq 27, 3) := by decide +kernel
theorem dX8_isStretch_7 : decode cX8_isStretch 7 = .ok (.iload_n 1, 1) := by decide +kernel
theorem dX8_isStretch_8 : decode cX8_isStretch 8 = .ok (.invokestatic 84, 3) := by decide +kernel
theorem dX8_isStretch_11 : decode cX8_isStretch 11 = .ok (.ifCond .eq 20, 3) := by decide +kernel
theorem dX8_isStretch_14 : decode cX8_isStretch 14 = .ok (.iload_n 0, 1) := by decide +kernel
theorem dX8_isStretch_15 : decode cX8_isStretch 15 = .ok (.iload_n 1, 1) := by decide +kernel
theorem dX8_isStretch_16 : decode cX8_isStretch 16 = .ok (.if_icmp .ge 15, 3) := by decide +kernel
theorem dX8_isStretch_19 : decode cX8_isStretch 19 = .ok (.iload_n 1, 1) := by decide +kernel
theorem dX8_isStretch_20 : decode cX8_isStretch 20 = .ok (.iload_n 0, 1) := by decide +kernel
theorem dX8_isStretch_21 : decode cX8_isStretch 21 = .ok (.isub, 1) := by decide +kernel
theorem dX8_isStretch_22 : decode cX8_isStretch 22 = .ok (.bipush 60, 2) := by decide +kernel
theorem dX8_isStretch_24 : decode cX8_isStretch 24 = .ok (.if_icmp .gt 7, 3) := by decide +kernel
theorem dX8_isStretch_27 : decode cX8_isStretch 27 = .ok (.iconst 1, 1) := by decide +kernel
theorem dX8_isStretch_28 : decode cX8_isStretch 28 = .ok (.goto 4, 3) := by decide +kernel
theorem dX8_isStretch_31 : decode cX8_isStretch 31 = .ok (.iconst 0, 1) := by decide +kernel
theorem dX8_isStretch_32 : decode cX8_isStretch 32 = .ok (.ireturn, 1) := by decide +kernel
theorem dX8_isWithin_0 : decode cX8_isWithin 0 = .ok (.iload_n 0, 1) := by decide +kernel
theorem dX8_isWithin_1 : decode cX8_isWithin 1 = .ok (.iload_n 1, 1) := by decide +kernel
theorem dX8_isWithin_2 : decode cX8_isWithin 2 = .ok (.ineg, 1) := by decide +kernel
theorem dX8_isWithin_3 : decode cX8_isWithin 3 = .ok (.if_icmp .lt 12, 3) := by decide +kernel
theorem dX8_isWithin_6 : decode cX8_isWithin 6 = .ok (.iload_n 0, 1) := by decide +kernel
theorem dX8_isWithin_7 : decode cX8_isWithin 7 = .ok (.iload_n 1, 1) := by decide +kernel
theorem dX8_isWithin_8 : decode cX8_isWithin 8 = .ok (.if_icmp .gt 7, 3) := by decide +kernel
theorem dX8_isWithin_11 : decode cX8_isWithin 11 = .ok (.iconst 1, 1) := by decide +kernel
theorem dX8_isWithin_12 : decode cX8_isWithin 12 = .ok (.goto 4, 3) := by decide +kernel
theorem dX8_isWithin_15 : decode cX8_isWithin 15 = .ok (.iconst 0, 1) := by decide +kernel
theorem dX8_isWithin_16 : decode cX8_isWithin 16 = .ok (.ireturn, 1) := by decide +kernel
theorem dX8_jump_0 : decode cX8_jump 0 = .ok (.iload 4, 2) := by decide +kernel
theorem dX8_jump_2 : decode cX8_jump 2 = .ok (.ifCond .lt 11, 3) := by decide +kernel
theorem dX8_jump_5 : decode cX8_jump 5 = .ok (.iload 4, 2) := by decide +kernel
theorem dX8_jump_7 : decode cX8_jump 7 = .ok (.sipush 2000, 3) := by decide +kernel
theorem dX8_jump_10 : decode cX8_jump 10 = .ok (.if_icmp .le 5, 3) := by decide +kernel
theorem dX8_jump_13 : decode cX8_jump 13 = .ok (.iconst (-1), 1) := by decide +kernel
theorem dX8_jump_14 : decode cX8_jump 14 = .ok (.ireturn, 1) := by decide +kernel
theorem dX8_jump_15 : decode cX8_jump 15 = .ok (.aload_n 0, 1) := by decide +kernel
theorem dX8_jump_16 : decode cX8_jump 16 = .ok (.iload_n 1, 1) := by decide +kernel
theorem dX8_jump_17 : decode cX8_jump 17 = .ok (.iload_n 2, 1) := by decide +kernel
theorem dX8_jump_18 : decode cX8_jump 18 = .ok (.iload_n 3, 1) := by decide +kernel
theorem dX8_jump_19 : decode cX8_jump 19 = .ok (.invokevirtual 152, 3) := by decide +kernel
theorem dX8_jump_22 : decode cX8_jump 22 = .ok (.istore 5, 2) := by decide +kernel
theorem dX8_jump_24 : decode cX8_jump 24 = .ok (.iload 5, 2) := by decide +kernel
theorem dX8_jump_26 : decode cX8_jump 26 = .ok (.ifCond .eq 6, 3) := by decide +kernel
theorem dX8_jump_29 : decode cX8_jump 29 = .ok (.iload 5, 2) := by decide +kernel
theorem dX8_jump_31 : decode cX8_jump 31 = .ok (.ireturn, 1) := by decide +kernel
theorem dX8_lackAt_0 : decode cX8_lackAt 0 = .ok (.iload_n 1, 1) := by decide +kernel
theorem dX8_lackAt_1 : decode cX8_lackAt 1 = .ok (.invokestatic 92, 3) := by decide +kernel
theorem dX8_lackAt_4 : decode cX8_lackAt 4 = .ok (.ifCond .ne 5, 3) := by decide +kernel
theorem dX8_lackAt_7 : decode cX8_lackAt 7 = .ok (.iconst (-1), 1) := by decide +kernel
theorem dX8_lackAt_8 : decode cX8_lackAt 8 = .ok (.ireturn, 1) := by decide +kernel
theorem dX8_lackAt_9 : decode cX8_lackAt 9 = .ok (.aload_n 0, 1) := by decide +kernel
theorem dX8_lackAt_10 : decode cX8_lackAt 10 = .ok (.getfield 13, 3) := by decide +kernel
theorem dX8_lackAt_13 : decode cX8_lackAt 13 = .ok (.iload_n 1, 1) := by decide +kernel
theorem dX8_lackAt_14 : decode cX8_lackAt 14 = .ok (.iaload, 1) := by decide +kernel
theorem dX8_lackAt_15 : decode cX8_lackAt 15 = .ok (.bipush (-5), 2) := by decide +kernel
theorem dX8_lackAt_17 : decode cX8_lackAt 17 = .ok (.if_icmp .ne 8, 3) := by decide +kernel
theorem dX8_lackAt_20 : decode cX8_lackAt 20 = .ok (.bipush (-2), 2) := by decide +kernel
theorem dX8_lackAt_22 : decode cX8_lackAt 22 = .ok (.goto 5, 3) := by decide +kernel
theorem dX8_lackAt_27 : decode cX8_lackAt 27 = .ok (.ireturn, 1) := by decide +kernel
theorem dX8_late_0 : decode cX8_late 0 = .ok (.aload_n 0, 1) := by decide +kernel
theorem dX8_late_1 : decode cX8_late 1 = .ok (.iload_n 1, 1) := by decide +kernel
theorem dX8_late_2 : decode cX8_late 2 = .ok (.iload_n 2, 1) := by decide +kernel
theorem dX8_late_3 : decode cX8_late 3 = .ok (.iconst 2, 1) := by decide +kernel
theorem dX8_late_4 : decode cX8_late 4 = .ok (.invokevirtual 135, 3) := by decide +kernel
theorem dX8_late_7 : decode cX8_late 7 = .ok (.ireturn, 1) := by decide +kernel
theorem dX8_law_0 : decode cX8_law 0 = .ok (.aload_n 0, 1) := by decide +kernel
theorem dX8_law_1 : decode cX8_law 1 = .ok (.iload_n 1, 1) := by decide +kernel
theorem dX8_law_2 : decode cX8_law 2 = .ok (.iload_n 2, 1) := by decide +kernel
theorem dX8_law_3 : decode cX8_law 3 = .ok (.iload_n 3, 1) := by decide +kernel
theorem dX8_law_4 : decode cX8_law 4 = .ok (.invokevirtual 152, 3) := by decide +kernel
theorem dX8_law_7 : decode cX8_law 7 = .ok (.istore 4, 2) := by decide +kernel
theorem dX8_law_9 : decode cX8_law 9 = .ok (.iload 4, 2) := by decide +kernel
theorem dX8_law_11 : decode cX8_law 11 = .ok (.ifCond .eq 6, 3) := by decide +kernel
theorem dX8_law_14 : decode cX8_law 14 = .ok (.iload 4, 2) := by decide +kernel
theorem dX8_law_16 : decode cX8_law 16 = .ok (.ireturn, 1) := by decide +kernel
theorem dX8_lend_0 : decode cX8_lend 0 = .ok (.iload_n 1, 1) := by decide +kernel
theorem dX8_lend_1 : decode cX8_lend 1 = .ok (.invokestatic 92, 3) := by decide +kernel
theorem dX8_lend_4 : decode cX8_lend 4 = .ok (.ifCond .eq 13, 3) := by decide +kernel
theorem dX8_lend_7 : decode cX8_lend 7 = .ok (.iload_n 2, 1) := by decide +kernel
theorem dX8_lend_8 : decode cX8_lend 8 = .ok (.ifCond .lt 9, 3) := by decide +kernel
theorem dX8_lend_11 : decode cX8_lend 11 = .ok (.iload_n 2, 1) := by decide +kernel
theorem dX8_lend_12 : decode cX8_lend 12 = .ok (.bipush 20, 2) := by decide +kernel
theorem dX8_lend_14 : decode cX8_lend 14 = .ok (.if_icmp .lt 5, 3) := by decide +kernel
theorem dX8_lend_17 : decode cX8_lend 17 = .ok (.iconst (-1), 1) := by decide +kernel
theorem dX8_lend_18 : decode cX8_lend 18 = .ok (.ireturn, 1) := by decide +kernel
theorem dX8_lend_19 : decode cX8_lend 19 = .ok (.aload_n 0, 1) := by decide +kernel
theorem dX8_lend_20 : decode cX8_lend 20 = .ok (.iload_n 1, 1) := by decide +kernel
theorem dX8_lend_21 : decode cX8_lend 21 = .ok (.invokevirtual 102, 3) := by decide +kernel
theorem dX8_lend_24 : decode cX8_lend 24 = .ok (.astore_n 3, 1) := by decide +kernel
theorem dX8_lend_25 : decode cX8_lend 25 = .ok (.aload_n 3, 1) := by decide +kernel
theorem dX8_lend_26 : decode cX8_lend 26 = .ok (.ifnonnull 9, 3) := by decide +kernel
theorem dX8_lend_29 : decode cX8_lend 29 = .ok (.aload_n 0, 1) := by decide +kernel
theorem dX8_lend_30 : decode cX8_lend 30 = .ok (.iload_n 1, 1) := by decide +kernel
theorem dX8_lend_31 : decode cX8_lend 31 = .ok (.invokevirtual 115, 3) := by decide +kernel
theorem dX8_lend_34 : decode cX8_lend 34 = .ok (.ireturn, 1) := by decide +kernel
theorem dX8_markOn_0 : decode cX8_markOn 0 = .ok (.iload_n 1, 1) := by decide +kernel
theorem dX8_markOn_1 : decode cX8_markOn 1 = .ok (.invokestatic 92, 3) := by decide +kernel
theorem dX8_markOn_4 : decode cX8_markOn 4 = .ok (.ifCond .eq 11, 3) := by decide +kernel
theorem dX8_markOn_7 : decode cX8_markOn 7 = .ok (.aload_n 0, 1) := by decide +kernel
theorem dX8_markOn_8 : decode cX8_markOn 8 = .ok (.iload_n 2, 1) := by decide +kernel
theorem dX8_markOn_9 : decode cX8_markOn 9 = .ok (.invokevirtual 111, 3) := by decide +kernel
theorem dX8_markOn_12 : decode cX8_markOn 12 = .ok (.ifCond .ne 5, 3) := by decide +kernel
theorem dX8_markOn_15 : decode cX8_markOn 15 = .ok (.iconst (-1), 1) := by decide +kernel
theorem dX8_markOn_16 : decode cX8_markOn 16 = .ok (.ireturn, 1) := by decide +kernel
theorem dX8_markOn_17 : decode cX8_markOn 17 = .ok (.aload_n 0, 1) := by decide +kernel
theorem dX8_markOn_18 : decode cX8_markOn 18 = .ok (.iload_n 1, 1) := by decide +kernel
theorem dX8_markOn_19 : decode cX8_markOn 19 = .ok (.invokevirtual 102, 3) := by decide +kernel
theorem dX8_markOn_22 : decode cX8_markOn 22 = .ok (.astore 4, 2) := by decide +kernel
theorem dX8_markOn_24 : decode cX8_markOn 24 = .ok (.aload 4, 2) := by decide +kernel
theorem dX8_markOn_26 : decode cX8_markOn 26 = .ok (.ifnonnull 9, 3) := by decide +kernel
theorem dX8_markOn_29 : decode cX8_markOn 29 = .ok (.aload_n 0, 1) := by decide +kernel
theorem dX8_markOn_30 : decode cX8_markOn 30 = .ok (.iload_n 1, 1) := by decide +kernel
theorem dX8_markOn_31 : decode cX8_markOn 31 = .ok (.invokevirtual 115, 3) := by decide +kernel
theorem dX8_markOn_34 : decode cX8_markOn 34 = .ok (.ireturn, 1) := by decide +kernel
theorem dX8_off_0 : decode cX8_off 0 = .ok (.iload_n 1, 1) := by decide +kernel
theorem dX8_off_1 : decode cX8_off 1 = .ok (.iconst 1, 1) := by decide +kernel
theorem dX8_off_2 : decode cX8_off 2 = .ok (.if_icmp .lt 39, 3) := by decide +kernel
theorem dX8_off_5 : decode cX8_off 5 = .ok (.iload_n 1, 1) := by decide +kernel
theorem dX8_off_6 : decode cX8_off 6 = .ok (.bipush 6, 2) := by decide +kernel
theorem dX8_off_8 : decode cX8_off 8 = .ok (.if_icmp .ge 33, 3) := by decide +kernel
theorem dX8_off_11 : decode cX8_off 11 = .ok (.iload_n 2, 1) := by decide +kernel
theorem dX8_off_12 : decode cX8_off 12 = .ok (.invokestatic 84, 3) := by decide +kernel
theorem dX8_off_15 : decode cX8_off 15 = .ok (.ifCond .eq 26, 3) := by decide +kernel
theorem dX8_off_18 : decode cX8_off 18 = .ok (.iload_n 3, 1) := by decide +kernel
theorem dX8_off_19 : decode cX8_off 19 = .ok (.invokestatic 84, 3) := by decide +kernel
theorem dX8_off_22 : decode cX8_off 22 = .ok (.ifCond .eq 19, 3) := by decide +kernel
theorem dX8_off_25 : decode cX8_off 25 = .ok (.iload_n 2, 1) := by decide +kernel
theorem dX8_off_26 : decode cX8_off 26 = .ok (.iload_n 3, 1) := by decide +kernel
theorem dX8_off_27 : decode cX8_off 27 = .ok (.if_icmp .gt 14, 3) := by decide +kernel
theorem dX8_off_30 : decode cX8_off 30 = .ok (.iload 4, 2) := by decide +kernel
theorem dX8_off_32 : decode cX8_off 32 = .ok (.sipush 10000, 3) := by decide +kernel
theorem dX8_off_35 : decode cX8_off 35 = .ok (.invokestatic 88, 3) := by decide +kernel
theorem dX8_off_38 : decode cX8_off 38 = .ok (.ifCond .ne 5, 3) := by decide +kernel
theorem dX8_off_41 : decode cX8_off 41 = .ok (.iconst (-1), 1) := by decide +kernel
theorem dX8_off_42 : decode cX8_off 42 = .ok (.ireturn, 1) := by decide +kernel
theorem dX8_off_43 : decode cX8_off 43 = .ok (.aload_n 0, 1) := by decide +kernel
theorem dX8_off_44 : decode cX8_off 44 = .ok (.getfield 37, 3) := by decide +kernel
theorem dX8_off_47 : decode cX8_off 47 = .ok (.getfield 142, 3) := by decide +kernel
theorem dX8_off_50 : decode cX8_off 50 = .ok (.bipush 60, 2) := by decide +kernel
theorem dX8_off_52 : decode cX8_off 52 = .ok (.if_icmp .lt 6, 3) := by decide +kernel
theorem dX8_off_58 : decode cX8_off 58 = .ok (.aload_n 0, 1) := by decide +kernel
theorem dX8_off_59 : decode cX8_off 59 = .ok (.getfield 37, 3) := by decide +kernel
theorem dX8_off_62 : decode cX8_off 62 = .ok (.iload_n 1, 1) := by decide +kernel
theorem dX8_off_63 : decode cX8_off 63 = .ok (.iload_n 2, 1) := by decide +kernel
theorem dX8_off_64 : decode cX8_off 64 = .ok (.iload_n 3, 1) := by decide +kernel
theorem dX8_off_65 : decode cX8_off 65 = .ok (.iload 4, 2) := by decide +kernel
theorem dX8_off_67 : decode cX8_off 67 = .ok (.aload_n 0, 1) := by decide +kernel
theorem dX8_off_68 : decode cX8_off 68 = .ok (.getfield 79, 3) := by decide +kernel
theorem dX8_off_71 : decode cX8_off 71 = .ok (.invokevirtual 145, 3) := by decide +kernel
theorem dX8_off_74 : decode cX8_off 74 = .ok (.aload_n 0, 1) := by decide +kernel
theorem dX8_off_75 : decode cX8_off 75 = .ok (.getfield 37, 3) := by decide +kernel
theorem dX8_off_78 : decode cX8_off 78 = .ok (.getfield 142, 3) := by decide +kernel
theorem dX8_off_81 : decode cX8_off 81 = .ok (.ireturn, 1) := by decide +kernel
theorem dX8_order_0 : decode cX8_order 0 = .ok (.aload_n 0, 1) := by decide +kernel
theorem dX8_order_1 : decode cX8_order 1 = .ok (.iload_n 1, 1) := by decide +kernel
theorem dX8_order_2 : decode cX8_order 2 = .ok (.iload_n 2, 1) := by decide +kernel
theorem dX8_order_3 : decode cX8_order 3 = .ok (.iload_n 3, 1) := by decide +kernel
theorem dX8_order_4 : decode cX8_order 4 = .ok (.invokevirtual 152, 3) := by decide +kernel
theorem dX8_order_7 : decode cX8_order 7 = .ok (.istore 4, 2) := by decide +kernel
theorem dX8_order_9 : decode cX8_order 9 = .ok (.iload 4, 2) := by decide +kernel
theorem dX8_order_11 : decode cX8_order 11 = .ok (.ifCond .eq 6, 3) := by decide +kernel
theorem dX8_order_14 : decode cX8_order 14 = .ok (.iload 4, 2) := by decide +kernel
theorem dX8_order_16 : decode cX8_order 16 = .ok (.ireturn, 1) := by decide +kernel
theorem dX8_placesWith_0 : decode cX8_placesWith 0 = .ok (.iconst 0, 1) := by decide +kernel
theorem dX8_placesWith_1 : decode cX8_placesWith 1 = .ok (.istore_n 2, 1) := by decide +kernel
theorem dX8_placesWith_2 : decode cX8_placesWith 2 = .ok (.iconst 0, 1) := by decide +kernel
theorem dX8_placesWith_3 : decode cX8_placesWith 3 = .ok (.istore_n 3, 1) := by decide +kernel
theorem dX8_placesWith_4 : decode cX8_placesWith 4 = .ok (.iload_n 3, 1) := by decide +kernel
theorem dX8_placesWith_5 : decode cX8_placesWith 5 = .ok (.bipush 16, 2) := by decide +kernel
theorem dX8_placesWith_7 : decode cX8_placesWith 7 = .ok (.if_icmp .ge 22, 3) := by decide +kernel
theorem dX8_placesWith_10 : decode cX8_placesWith 10 = .ok (.aload_n 0, 1) := by decide +kernel
theorem dX8_placesWith_11 : decode cX8_placesWith 11 = .ok (.getfield 13, 3) := by decide +kernel
theorem dX8_placesWith_14 : decode cX8_placesWith 14 = .ok (.iload_n 3, 1) := by decide +kernel
theorem dX8_placesWith_15 : decode cX8_placesWith 15 = .ok (.iaload, 1) := by decide +kernel
theorem dX8_placesWith_16 : decode cX8_placesWith 16 = .ok (.iload_n 1, 1) := by decide +kernel
theorem dX8_placesWith_17 : decode cX8_placesWith 17 = .ok (.if_icmp .ne 6, 3) := by decide +kernel
theorem dX8_placesWith_23 : decode cX8_placesWith 23 = .ok (.iinc 3 1, 3) := by decide +kernel
theorem dX8_placesWith_26 : decode cX8_placesWith 26 = .ok (.goto (-22), 3) := by decide +kernel
theorem dX8_placesWith_29 : decode cX8_placesWith 29 = .ok (.iload_n 2, 1) := by decide +kernel
theorem dX8_placesWith_30 : decode cX8_placesWith 30 = .ok (.ireturn, 1) := by decide +kernel
theorem dX8_put_0 : decode cX8_put 0 = .ok (.iload_n 1, 1) := by decide +kernel
theorem dX8_put_1 : decode cX8_put 1 = .ok (.invokestatic 92, 3) := by decide +kernel
theorem dX8_put_4 : decode cX8_put 4 = .ok (.ifCond .eq 11, 3) := by decide +kernel
theorem dX8_put_7 : decode cX8_put 7 = .ok (.iload_n 2, 1) := by decide +kernel
theorem dX8_put_8 : decode cX8_put 8 = .ok (.iload_n 3, 1) := by decide +kernel
theorem dX8_put_9 : decode cX8_put 9 = .ok (.invokestatic 95, 3) := by decide +kernel
theorem dX8_put_12 : decode cX8_put 12 = .ok (.ifCond .ne 5, 3) := by decide +kernel
theorem dX8_put_15 : decode cX8_put 15 = .ok (.iconst (-1), 1) := by decide +kernel
theorem dX8_put_16 : decode cX8_put 16 = .ok (.ireturn, 1) := by decide +kernel
theorem dX8_put_17 : decode cX8_put 17 = .ok (.aload_n 0, 1) := by decide +kernel
theorem dX8_put_18 : decode cX8_put 18 = .ok (.getfield 13, 3) := by decide +kernel
theorem dX8_put_21 : decode cX8_put 21 = .ok (.iload_n 1, 1) := by decide +kernel
theorem dX8_put_22 : decode cX8_put 22 = .ok (.iaload, 1) := by decide +kernel
theorem dX8_put_23 : decode cX8_put 23 = .ok (.bipush (-5), 2) := by decide +kernel
theorem dX8_put_25 : decode cX8_put 25 = .ok (.if_icmp .eq 6, 3) := by decide +kernel
theorem dX8_put_31 : decode cX8_put 31 = .ok (.aload_n 0, 1) := by decide +kernel
theorem dX8_put_32 : decode cX8_put 32 = .ok (.getfield 13, 3) := by decide +kernel
theorem dX8_put_35 : decode cX8_put 35 = .ok (.iload_n 1, 1) := by decide +kernel
theorem dX8_put_36 : decode cX8_put 36 = .ok (.iload_n 2, 1) := by decide +kernel
theorem dX8_put_37 : decode cX8_put 37 = .ok (.iastore, 1) := by decide +kernel
theorem dX8_put_38 : decode cX8_put 38 = .ok (.aload_n 0, 1) := by decide +kernel
theorem dX8_put_39 : decode cX8_put 39 = .ok (.getfield 16, 3) := by decide +kernel
theorem dX8_put_42 : decode cX8_put 42 = .ok (.iload_n 1, 1) := by decide +kernel
theorem dX8_put_43 : decode cX8_put 43 = .ok (.iload_n 3, 1) := by decide +kernel
theorem dX8_put_44 : decode cX8_put 44 = .ok (.iastore, 1) := by decide +kernel
theorem dX8_put_45 : decode cX8_put 45 = .ok (.iload_n 2, 1) := by decide +kernel
theorem dX8_put_46 : decode cX8_put 46 = .ok (.iconst 2, 1) := by decide +kernel
theorem dX8_put_47 : decode cX8_put 47 = .ok (.if_icmp .eq 8, 3) := by decide +kernel
theorem dX8_put_50 : decode cX8_put 50 = .ok (.aload_n 0, 1) := by decide +kernel
theorem dX8_put_51 : decode cX8_put 51 = .ok (.iload_n 1, 1) := by decide +kernel
theorem dX8_put_52 : decode cX8_put 52 = .ok (.invokevirtual 98, 3) := by decide +kernel
theorem dX8_put_55 : decode cX8_put 55 = .ok (.iconst 1, 1) := by decide +kernel
theorem dX8_put_56 : decode cX8_put 56 = .ok (.ireturn, 1) := by decide +kernel
theorem dX8_rate_0 : decode cX8_rate 0 = .ok (.aload_n 0, 1) := by decide +kernel
theorem dX8_rate_1 : decode cX8_rate 1 = .ok (.iload_n 1, 1) := by decide +kernel
theorem dX8_rate_2 : decode cX8_rate 2 = .ok (.invokevirtual 102, 3) := by decide +kernel
theorem dX8_rate_5 : decode cX8_rate 5 = .ok (.astore 4, 2) := by decide +kernel
theorem dX8_rate_7 : decode cX8_rate 7 = .ok (.aload 4, 2) := by decide +kernel
theorem dX8_rate_9 : decode cX8_rate 9 = .ok (.ifnull 17, 3) := by decide +kernel
theorem dX8_rate_26 : decode cX8_rate 26 = .ok (.ldc 110, 2) := by decide +kernel
theorem dX8_rate_28 : decode cX8_rate 28 = .ok (.ireturn, 1) := by decide +kernel
theorem dX8_read_0 : decode cX8_read 0 = .ok (.iload_n 1, 1) := by decide +kernel
theorem dX8_read_1 : decode cX8_read 1 = .ok (.invokestatic 92, 3) := by decide +kernel
theorem dX8_read_4 : decode cX8_read 4 = .ok (.ifCond .eq 23, 3) := by decide +kernel
theorem dX8_read_7 : decode cX8_read 7 = .ok (.aload_n 0, 1) := by decide +kernel
theorem dX8_read_8 : decode cX8_read 8 = .ok (.getfield 13, 3) := by decide +kernel
theorem dX8_read_11 : decode cX8_read 11 = .ok (.iload_n 1, 1) := by decide +kernel
theorem dX8_read_12 : decode cX8_read 12 = .ok (.iaload, 1) := by decide +kernel
theorem dX8_read_13 : decode cX8_read 13 = .ok (.iconst 1, 1) := by decide +kernel
theorem dX8_read_14 : decode cX8_read 14 = .ok (.if_icmp .eq 16, 3) := by decide +kernel
theorem dX8_read_17 : decode cX8_read 17 = .ok (.aload_n 0, 1) := by decide +kernel
theorem dX8_read_18 : decode cX8_read 18 = .ok (.getfield 13, 3) := by decide +kernel
theorem dX8_read_21 : decode cX8_read 21 = .ok (.iload_n 1, 1) := by decide +kernel
theorem dX8_read_22 : decode cX8_read 22 = .ok (.iaload, 1) := by decide +kernel
theorem dX8_read_23 : decode cX8_read 23 = .ok (.iconst 2, 1) := by decide +kernel
theorem dX8_read_24 : decode cX8_read 24 = .ok (.if_icmp .eq 6, 3) := by decide +kernel
theorem dX8_read_27 : decode cX8_read 27 = .ok (.ldc 110, 2) := by decide +kernel
theorem dX8_read_29 : decode cX8_read 29 = .ok (.ireturn, 1) := by decide +kernel
theorem dX8_refusalOfStretch_0 : decode cX8_refusalOfStretch 0 = .ok (.iload_n 1, 1) := by decide +kernel
theorem dX8_refusalOfStretch_1 : decode cX8_refusalOfStretch 1 = .ok (.invokestatic 92, 3) := by decide +kernel
theorem dX8_refusalOfStretch_4 : decode cX8_refusalOfStretch 4 = .ok (.ifCond .eq 11, 3) := by decide +kernel
theorem dX8_refusalOfStretch_7 : decode cX8_refusalOfStretch 7 = .ok (.iload_n 2, 1) := by decide +kernel
theorem dX8_refusalOfStretch_8 : decode cX8_refusalOfStretch 8 = .ok (.iload_n 3, 1) := by decide +kernel
theorem dX8_refusalOfStretch_9 : decode cX8_refusalOfStretch 9 = .ok (.invokestatic 149, 3) := by decide +kernel
theorem dX8_refusalOfStretch_12 : decode cX8_refusalOfStretch 12 = .ok (.ifCond .ne 5, 3) := by decide +kernel
theorem dX8_refusalOfStretch_15 : decode cX8_refusalOfStretch 15 = .ok (.iconst (-1), 1) := by decide +kernel
theorem dX8_refusalOfStretch_16 : decode cX8_refusalOfStretch 16 = .ok (.ireturn, 1) := by decide +kernel
theorem dX8_refusalOfStretch_17 : decode cX8_refusalOfStretch 17 = .ok (.aload_n 0, 1) := by decide +kernel
theorem dX8_refusalOfStretch_18 : decode cX8_refusalOfStretch 18 = .ok (.iload_n 1, 1) := by decide +kernel
theorem dX8_refusalOfStretch_19 : decode cX8_refusalOfStretch 19 = .ok (.invokevirtual 102, 3) := by decide +kernel
theorem dX8_refusalOfStretch_22 : decode cX8_refusalOfStretch 22 = .ok (.ifnonnull 11, 3) := by decide +kernel
theorem dX8_refusalOfStretch_25 : decode cX8_refusalOfStretch 25 = .ok (.aload_n 0, 1) := by decide +kernel
theorem dX8_refusalOfStretch_26 : decode cX8_refusalOfStretch 26 = .ok (.iload_n 1, 1) := by decide +kernel
theorem dX8_refusalOfStretch_27 : decode cX8_refusalOfStretch 27 = .ok (.invokevirtual 115, 3) := by decide +kernel
theorem dX8_refusalOfStretch_30 : decode cX8_refusalOfStretch 30 = .ok (.goto 4, 3) := by decide +kernel
theorem dX8_refusalOfStretch_34 : decode cX8_refusalOfStretch 34 = .ok (.ireturn, 1) := by decide +kernel
theorem dX8_repair_0 : decode cX8_repair 0 = .ok (.aload_n 0, 1) := by decide +kernel
theorem dX8_repair_1 : decode cX8_repair 1 = .ok (.iload_n 1, 1) := by decide +kernel
theorem dX8_repair_2 : decode cX8_repair 2 = .ok (.iload_n 2, 1) := by decide +kernel
theorem dX8_repair_3 : decode cX8_repair 3 = .ok (.iconst 1, 1) := by decide +kernel
theorem dX8_repair_4 : decode cX8_repair 4 = .ok (.invokevirtual 135, 3) := by decide +kernel
theorem dX8_repair_7 : decode cX8_repair 7 = .ok (.ireturn, 1) := by decide +kernel
theorem dX8_rule_0 : decode cX8_rule 0 = .ok (.iload_n 1, 1) := by decide +kernel
theorem dX8_rule_1 : decode cX8_rule 1 = .ok (.ifCond .eq 10, 3) := by decide +kernel
theorem dX8_rule_4 : decode cX8_rule 4 = .ok (.iload_n 1, 1) := by decide +kernel
theorem dX8_rule_5 : decode cX8_rule 5 = .ok (.iconst 1, 1) := by decide +kernel
theorem dX8_rule_6 : decode cX8_rule 6 = .ok (.if_icmp .eq 5, 3) := by decide +kernel
theorem dX8_rule_9 : decode cX8_rule 9 = .ok (.iconst (-1), 1) := by decide +kernel
theorem dX8_rule_10 : decode cX8_rule 10 = .ok (.ireturn, 1) := by decide +kernel
theorem dX8_rule_11 : decode cX8_rule 11 = .ok (.aload_n 0, 1) := by decide +kernel
theorem dX8_rule_12 : decode cX8_rule 12 = .ok (.getfield 58, 3) := by decide +kernel
theorem dX8_rule_15 : decode cX8_rule 15 = .ok (.iload_n 1, 1) := by decide +kernel
theorem dX8_rule_16 : decode cX8_rule 16 = .ok (.ifCond .ne 8, 3) := by decide +kernel
theorem dX8_rule_19 : decode cX8_rule 19 = .ok (.ldc 182, 2) := by decide +kernel
theorem dX8_rule_21 : decode cX8_rule 21 = .ok (.goto 5, 3) := by decide +kernel
theorem dX8_rule_24 : decode cX8_rule 24 = .ok (.ldc 184, 2) := by decide +kernel
theorem dX8_rule_26 : decode cX8_rule 26 = .ok (.invokevirtual 186, 3) := by decide +kernel
theorem dX8_rule_29 : decode cX8_rule 29 = .ok (.istore_n 2, 1) := by decide +kernel
theorem dX8_rule_30 : decode cX8_rule 30 = .ok (.aload_n 0, 1) := by decide +kernel
theorem dX8_rule_31 : decode cX8_rule 31 = .ok (.getfield 58, 3) := by decide +kernel
theorem dX8_rule_34 : decode cX8_rule 34 = .ok (.iconst 0, 1) := by decide +kernel
theorem dX8_rule_35 : decode cX8_rule 35 = .ok (.putfield 179, 3) := by decide +kernel
theorem dX8_rule_38 : decode cX8_rule 38 = .ok (.iload_n 2, 1) := by decide +kernel
theorem dX8_rule_39 : decode cX8_rule 39 = .ok (.iconst (-1), 1) := by decide +kernel
theorem dX8_rule_40 : decode cX8_rule 40 = .ok (.if_icmp .eq 8, 3) := by decide +kernel
theorem dX8_rule_43 : decode cX8_rule 43 = .ok (.bipush (-100), 2) := by decide +kernel
theorem dX8_rule_45 : decode cX8_rule 45 = .ok (.iload_n 2, 1) := by decide +kernel
theorem dX8_rule_46 : decode cX8_rule 46 = .ok (.isub, 1) := by decide +kernel
theorem dX8_rule_47 : decode cX8_rule 47 = .ok (.ireturn, 1) := by decide +kernel
theorem dX8_sail_0 : decode cX8_sail 0 = .ok (.iload_n 1, 1) := by decide +kernel
theorem dX8_sail_1 : decode cX8_sail 1 = .ok (.invokestatic 202, 3) := by decide +kernel
theorem dX8_sail_4 : decode cX8_sail 4 = .ok (.ifCond .eq 42, 3) := by decide +kernel
theorem dX8_sail_7 : decode cX8_sail 7 = .ok (.iload_n 2, 1) := by decide +kernel
theorem dX8_sail_8 : decode cX8_sail 8 = .ok (.invokestatic 92, 3) := by decide +kernel
theorem dX8_sail_11 : decode cX8_sail 11 = .ok (.ifCond .eq 35, 3) := by decide +kernel
theorem dX8_sail_14 : decode cX8_sail 14 = .ok (.iload_n 3, 1) := by decide +kernel
theorem dX8_sail_15 : decode cX8_sail 15 = .ok (.invokestatic 92, 3) := by decide +kernel
theorem dX8_sail_18 : decode cX8_sail 18 = .ok (.ifCond .eq 28, 3) := by decide +kernel
theorem dX8_sail_21 : decode cX8_sail 21 = .ok (.iload 4, 2) := by decide +kernel
theorem dX8_sail_23 : decode cX8_sail 23 = .ok (.invokestatic 92, 3) := by decide +kernel
theorem dX8_sail_26 : decode cX8_sail 26 = .ok (.ifCond .eq 20, 3) := by decide +kernel
theorem dX8_sail_29 : decode cX8_sail 29 = .ok (.iload_n 2, 1) := by decide +kernel
theorem dX8_sail_30 : decode cX8_sail 30 = .ok (.iload_n 3, 1) := by decide +kernel
theorem dX8_sail_31 : decode cX8_sail 31 = .ok (.if_icmp .eq 15, 3) := by decide +kernel
theorem dX8_sail_34 : decode cX8_sail 34 = .ok (.iload_n 2, 1) := by decide +kernel
theorem dX8_sail_35 : decode cX8_sail 35 = .ok (.iload 4, 2) := by decide +kernel
theorem dX8_sail_37 : decode cX8_sail 37 = .ok (.if_icmp .eq 9, 3) := by decide +kernel
theorem dX8_sail_40 : decode cX8_sail 40 = .ok (.iload_n 3, 1) := by decide +kernel
theorem dX8_sail_41 : decode cX8_sail 41 = .ok (.iload 4, 2) := by decide +kernel
theorem dX8_sail_43 : decode cX8_sail 43 = .ok (.if_icmp .ne 5, 3) := by decide +kernel
theorem dX8_sail_46 : decode cX8_sail 46 = .ok (.iconst (-1), 1) := by decide +kernel
theorem dX8_sail_47 : decode cX8_sail 47 = .ok (.ireturn, 1) := by decide +kernel
theorem dX8_sail_48 : decode cX8_sail 48 = .ok (.aload_n 0, 1) := by decide +kernel
theorem dX8_sail_49 : decode cX8_sail 49 = .ok (.iload_n 2, 1) := by decide +kernel
theorem dX8_sail_50 : decode cX8_sail 50 = .ok (.iload_n 3, 1) := by decide +kernel
theorem dX8_sail_51 : decode cX8_sail 51 = .ok (.iload 4, 2) := by decide +kernel
theorem dX8_sail_53 : decode cX8_sail 53 = .ok (.invokevirtual 205, 3) := by decide +kernel
theorem dX8_sail_56 : decode cX8_sail 56 = .ok (.istore 5, 2) := by decide +kernel
theorem dX8_sail_58 : decode cX8_sail 58 = .ok (.iload 5, 2) := by decide +kernel
theorem dX8_sail_60 : decode cX8_sail 60 = .ok (.ifCond .eq 6, 3) := by decide +kernel
theorem dX8_sail_63 : decode cX8_sail 63 = .ok (.iload 5, 2) := by decide +kernel
theorem dX8_sail_65 : decode cX8_sail 65 = .ok (.ireturn, 1) := by decide +kernel
theorem dX8_shipsAtSea_0 : decode cX8_shipsAtSea 0 = .ok (.iconst 0, 1) := by decide +kernel
theorem dX8_shipsAtSea_1 : decode cX8_shipsAtSea 1 = .ok (.istore_n 1, 1) := by decide +kernel
theorem dX8_shipsAtSea_2 : decode cX8_shipsAtSea 2 = .ok (.iconst 0, 1) := by decide +kernel
theorem dX8_shipsAtSea_3 : decode cX8_shipsAtSea 3 = .ok (.istore_n 2, 1) := by decide +kernel
theorem dX8_shipsAtSea_4 : decode cX8_shipsAtSea 4 = .ok (.iload_n 2, 1) := by decide +kernel
theorem dX8_shipsAtSea_5 : decode cX8_shipsAtSea 5 = .ok (.iconst 5, 1) := by decide +kernel
theorem dX8_shipsAtSea_6 : decode cX8_shipsAtSea 6 = .ok (.if_icmp .ge 25, 3) := by decide +kernel
theorem dX8_shipsAtSea_9 : decode cX8_shipsAtSea 9 = .ok (.aload_n 0, 1) := by decide +kernel
theorem dX8_shipsAtSea_10 : decode cX8_shipsAtSea 10 = .ok (.getfield 27, 3) := by decide +kernel
theorem dX8_shipsAtSea_13 : decode cX8_shipsAtSea 13 = .ok (.iload_n 2, 1) := by decide +kernel
theorem dX8_shipsAtSea_14 : decode cX8_shipsAtSea 14 = .ok (.aaload, 1) := by decide +kernel
theorem dX8_shipsAtSea_15 : decode cX8_shipsAtSea 15 = .ok (.getfield 208, 3) := by decide +kernel
theorem dX8_shipsAtSea_18 : decode cX8_shipsAtSea 18 = .ok (.iconst 1, 1) := by decide +kernel
theorem dX8_shipsAtSea_19 : decode cX8_shipsAtSea 19 = .ok (.if_icmp .ne 6, 3) := by decide +kernel
theorem dX8_shipsAtSea_25 : decode cX8_shipsAtSea 25 = .ok (.iinc 2 1, 3) := by decide +kernel
theorem dX8_shipsAtSea_28 : decode cX8_shipsAtSea 28 = .ok (.goto (-24), 3) := by decide +kernel
theorem dX8_shipsAtSea_31 : decode cX8_shipsAtSea 31 = .ok (.iload_n 1, 1) := by decide +kernel
theorem dX8_shipsAtSea_32 : decode cX8_shipsAtSea 32 = .ok (.ireturn, 1) := by decide +kernel
theorem dX8_sight_0 : decode cX8_sight 0 = .ok (.iload_n 1, 1) := by decide +kernel
theorem dX8_sight_1 : decode cX8_sight 1 = .ok (.invokestatic 202, 3) := by decide +kernel
theorem dX8_sight_4 : decode cX8_sight 4 = .ok (.ifCond .eq 40, 3) := by decide +kernel
theorem dX8_sight_7 : decode cX8_sight 7 = .ok (.aload_n 0, 1) := by decide +kernel
theorem dX8_sight_8 : decode cX8_sight 8 = .ok (.iload_n 2, 1) := by decide +kernel
theorem dX8_sight_9 : decode cX8_sight 9 = .ok (.invokevirtual 111, 3) := by decide +kernel
theorem dX8_sight_12 : decode cX8_sight 12 = .ok (.ifCond .eq 32, 3) := by decide +kernel
theorem dX8_sight_15 : decode cX8_sight 15 = .ok (.iload_n 3, 1) := by decide +kernel
theorem dX8_sight_16 : decode cX8_sight 16 = .ok (.ldc 232, 2) := by decide +kernel
theorem dX8_sight_18 : decode cX8_sight 18 = .ok (.invokestatic 88, 3) := by decide +kernel
theorem dX8_sight_21 : decode cX8_sight 21 = .ok (.ifCond .eq 23, 3) := by decide +kernel
theorem dX8_sight_24 : decode cX8_sight 24 = .ok (.iload 4, 2) := by decide +kernel
theorem dX8_sight_26 : decode cX8_sight 26 = .ok (.ldc 232, 2) := by decide +kernel
theorem dX8_sight_28 : decode cX8_sight 28 = .ok (.invokestatic 88, 3) := by decide +kernel
theorem dX8_sight_31 : decode cX8_sight 31 = .ok (.ifCond .eq 13, 3) := by decide +kernel
theorem dX8_sight_34 : decode cX8_sight 34 = .ok (.iload 5, 2) := by decide +kernel
theorem dX8_sight_36 : decode cX8_sight 36 = .ok (.ldc 232, 2) := by decide +kernel
theorem dX8_sight_38 : decode cX8_sight 38 = .ok (.invokestatic 88, 3) := by decide +kernel
theorem dX8_sight_41 : decode cX8_sight 41 = .ok (.ifCond .ne 5, 3) := by decide +kernel
theorem dX8_sight_44 : decode cX8_sight 44 = .ok (.iconst (-1), 1) := by decide +kernel
theorem dX8_sight_45 : decode cX8_sight 45 = .ok (.ireturn, 1) := by decide +kernel
theorem dX8_sight_46 : decode cX8_sight 46 = .ok (.aload_n 0, 1) := by decide +kernel
theorem dX8_sight_47 : decode cX8_sight 47 = .ok (.getfield 27, 3) := by decide +kernel
theorem dX8_sight_50 : decode cX8_sight 50 = .ok (.iload_n 1, 1) := by decide +kernel
theorem dX8_sight_51 : decode cX8_sight 51 = .ok (.aaload, 1) := by decide +kernel
theorem dX8_sight_52 : decode cX8_sight 52 = .ok (.astore 6, 2) := by decide +kernel
theorem dX8_sight_54 : decode cX8_sight 54 = .ok (.aload 6, 2) := by decide +kernel
theorem dX8_sight_56 : decode cX8_sight 56 = .ok (.iload_n 2, 1) := by decide +kernel
theorem dX8_sight_57 : decode cX8_sight 57 = .ok (.invokevirtual 233, 3) := by decide +kernel
theorem dX8_sight_60 : decode cX8_sight 60 = .ok (.ifCond .ne 5, 3) := by decide +kernel
theorem dX8_sight_65 : decode cX8_sight 65 = .ok (.aload 6, 2) := by decide +kernel
theorem dX8_sight_67 : decode cX8_sight 67 = .ok (.getfield 208, 3) := by decide +kernel
theorem dX8_sight_70 : decode cX8_sight 70 = .ok (.iconst 1, 1) := by decide +kernel
theorem dX8_sight_71 : decode cX8_sight 71 = .ok (.if_icmp .eq 6, 3) := by decide +kernel
theorem dX8_sight_74 : decode cX8_sight 74 = .ok (.bipush (-4), 2) := by decide +kernel
theorem dX8_sight_76 : decode cX8_sight 76 = .ok (.ireturn, 1) := by decide +kernel
theorem dX8_state_0 : decode cX8_state 0 = .ok (.iload_n 1, 1) := by decide +kernel
theorem dX8_state_1 : decode cX8_state 1 = .ok (.invokestatic 202, 3) := by decide +kernel
theorem dX8_state_4 : decode cX8_state 4 = .ok (.ifCond .eq 15, 3) := by decide +kernel
theorem dX8_state_7 : decode cX8_state 7 = .ok (.aload_n 0, 1) := by decide +kernel
theorem dX8_state_8 : decode cX8_state 8 = .ok (.getfield 27, 3) := by decide +kernel
theorem dX8_state_11 : decode cX8_state 11 = .ok (.iload_n 1, 1) := by decide +kernel
theorem dX8_state_12 : decode cX8_state 12 = .ok (.aaload, 1) := by decide +kernel
theorem dX8_state_13 : decode cX8_state 13 = .ok (.getfield 208, 3) := by decide +kernel
theorem dX8_state_16 : decode cX8_state 16 = .ok (.goto 4, 3) := by decide +kernel
theorem dX8_state_19 : decode cX8_state 19 = .ok (.iconst (-1), 1) := by decide +kernel
theorem dX8_state_20 : decode cX8_state 20 = .ok (.ireturn, 1) := by decide +kernel
theorem dX8_take_0 : decode cX8_take 0 = .ok (.iload_n 1, 1) := by decide +kernel
theorem dX8_take_1 : decode cX8_take 1 = .ok (.invokestatic 92, 3) := by decide +kernel
theorem dX8_take_4 : decode cX8_take 4 = .ok (.ifCond .ne 5, 3) := by decide +kernel
theorem dX8_take_7 : decode cX8_take 7 = .ok (.iconst (-1), 1) := by decide +kernel
theorem dX8_take_8 : decode cX8_take 8 = .ok (.ireturn, 1) := by decide +kernel
theorem dX8_take_9 : decode cX8_take 9 = .ok (.aload_n 0, 1) := by decide +kernel
theorem dX8_take_10 : decode cX8_take 10 = .ok (.getfield 13, 3) := by decide +kernel
theorem dX8_take_13 : decode cX8_take 13 = .ok (.iload_n 1, 1) := by decide +kernel
theorem dX8_take_14 : decode cX8_take 14 = .ok (.iaload, 1) := by decide +kernel
theorem dX8_take_15 : decode cX8_take 15 = .ok (.bipush (-5), 2) := by decide +kernel
theorem dX8_take_17 : decode cX8_take 17 = .ok (.if_icmp .ne 6, 3) := by decide +kernel
theorem dX8_take_20 : decode cX8_take 20 = .ok (.bipush (-2), 2) := by decide +kernel
theorem dX8_take_22 : decode cX8_take 22 = .ok (.ireturn, 1) := by decide +kernel
theorem dX8_terms_0 : decode cX8_terms 0 = .ok (.aload_n 0, 1) := by decide +kernel
theorem dX8_terms_1 : decode cX8_terms 1 = .ok (.iload_n 1, 1) := by decide +kernel
theorem dX8_terms_2 : decode cX8_terms 2 = .ok (.iload_n 2, 1) := by decide +kernel
theorem dX8_terms_3 : decode cX8_terms 3 = .ok (.iload_n 3, 1) := by decide +kernel
theorem dX8_terms_4 : decode cX8_terms 4 = .ok (.invokevirtual 152, 3) := by decide +kernel
theorem dX8_terms_7 : decode cX8_terms 7 = .ok (.istore 4, 2) := by decide +kernel
theorem dX8_terms_9 : decode cX8_terms 9 = .ok (.iload 4, 2) := by decide +kernel
theorem dX8_terms_11 : decode cX8_terms 11 = .ok (.ifCond .eq 6, 3) := by decide +kernel
theorem dX8_terms_14 : decode cX8_terms 14 = .ok (.iload 4, 2) := by decide +kernel
theorem dX8_terms_16 : decode cX8_terms 16 = .ok (.ireturn, 1) := by decide +kernel
theorem dX8_told_0 : decode cX8_told 0 = .ok (.iload_n 1, 1) := by decide +kernel
theorem dX8_told_1 : decode cX8_told 1 = .ok (.invokestatic 202, 3) := by decide +kernel
theorem dX8_told_4 : decode cX8_told 4 = .ok (.ifCond .eq 30, 3) := by decide +kernel
theorem dX8_told_7 : decode cX8_told 7 = .ok (.iload_n 2, 1) := by decide +kernel
theorem dX8_told_8 : decode cX8_told 8 = .ok (.ifCond .lt 26, 3) := by decide +kernel
theorem dX8_told_11 : decode cX8_told 11 = .ok (.iload_n 2, 1) := by decide +kernel
theorem dX8_told_12 : decode cX8_told 12 = .ok (.aload_n 0, 1) := by decide +kernel
theorem dX8_told_13 : decode cX8_told 13 = .ok (.getfield 27, 3) := by decide +kernel
theorem dX8_told_16 : decode cX8_told 16 = .ok (.iload_n 1, 1) := by decide +kernel
theorem dX8_told_17 : decode cX8_told 17 = .ok (.aaload, 1) := by decide +kernel
theorem dX8_told_18 : decode cX8_told 18 = .ok (.getfield 236, 3) := by decide +kernel
theorem dX8_told_21 : decode cX8_told 21 = .ok (.if_icmp .ge 13, 3) := by decide +kernel
theorem dX8_told_34 : decode cX8_told 34 = .ok (.ldc 110, 2) := by decide +kernel
theorem dX8_told_36 : decode cX8_told 36 = .ok (.ireturn, 1) := by decide +kernel
theorem dX8_trial_0 : decode cX8_trial 0 = .ok (.aload_n 0, 1) := by decide +kernel
theorem dX8_trial_1 : decode cX8_trial 1 = .ok (.iload_n 1, 1) := by decide +kernel
theorem dX8_trial_2 : decode cX8_trial 2 = .ok (.iload_n 2, 1) := by decide +kernel
theorem dX8_trial_3 : decode cX8_trial 3 = .ok (.iload_n 3, 1) := by decide +kernel
theorem dX8_trial_4 : decode cX8_trial 4 = .ok (.invokevirtual 152, 3) := by decide +kernel
theorem dX8_trial_7 : decode cX8_trial 7 = .ok (.ifCond .ne 13, 3) := by decide +kernel
theorem dX8_trial_20 : decode cX8_trial 20 = .ok (.ldc 110, 2) := by decide +kernel
theorem dX8_trial_22 : decode cX8_trial 22 = .ok (.ireturn, 1) := by decide +kernel
theorem dX8_warmth_0 : decode cX8_warmth 0 = .ok (.iload_n 1, 1) := by decide +kernel
theorem dX8_warmth_1 : decode cX8_warmth 1 = .ok (.invokestatic 84, 3) := by decide +kernel
theorem dX8_warmth_4 : decode cX8_warmth 4 = .ok (.ifCond .eq 18, 3) := by decide +kernel
theorem dX8_warmth_7 : decode cX8_warmth 7 = .ok (.iload_n 2, 1) := by decide +kernel
theorem dX8_warmth_8 : decode cX8_warmth 8 = .ok (.bipush (-100), 2) := by decide +kernel
theorem dX8_warmth_10 : decode cX8_warmth 10 = .ok (.if_icmp .eq 14, 3) := by decide +kernel
theorem dX8_warmth_13 : decode cX8_warmth 13 = .ok (.iload_n 2, 1) := by decide +kernel
theorem dX8_warmth_14 : decode cX8_warmth 14 = .ok (.bipush 50, 2) := by decide +kernel
theorem dX8_warmth_16 : decode cX8_warmth 16 = .ok (.invokestatic 88, 3) := by decide +kernel
theorem dX8_warmth_19 : decode cX8_warmth 19 = .ok (.ifCond .ne 5, 3) := by decide +kernel
theorem dX8_warmth_22 : decode cX8_warmth 22 = .ok (.iconst (-1), 1) := by decide +kernel
theorem dX8_warmth_23 : decode cX8_warmth 23 = .ok (.ireturn, 1) := by decide +kernel
theorem dX8_warmth_24 : decode cX8_warmth 24 = .ok (.aload_n 0, 1) := by decide +kernel
theorem dX8_warmth_25 : decode cX8_warmth 25 = .ok (.getfield 9, 3) := by decide +kernel
theorem dX8_warmth_28 : decode cX8_warmth 28 = .ok (.iload_n 1, 1) := by decide +kernel
theorem dX8_warmth_29 : decode cX8_warmth 29 = .ok (.iload_n 2, 1) := by decide +kernel
theorem dX8_warmth_30 : decode cX8_warmth 30 = .ok (.iastore, 1) := by decide +kernel
theorem dX8_warmth_31 : decode cX8_warmth 31 = .ok (.iconst 1, 1) := by decide +kernel
theorem dX8_warmth_32 : decode cX8_warmth 32 = .ok (.ireturn, 1) := by decide +kernel
theorem dX8_watchAt_0 : decode cX8_watchAt 0 = .ok (.iload_n 1, 1) := by decide +kernel
theorem dX8_watchAt_1 : decode cX8_watchAt 1 = .ok (.invokestatic 92, 3) := by decide +kernel
theorem dX8_watchAt_4 : decode cX8_watchAt 4 = .ok (.ifCond .eq 22, 3) := by decide +kernel
theorem dX8_watchAt_7 : decode cX8_watchAt 7 = .ok (.aload_n 0, 1) := by decide +kernel
theorem dX8_watchAt_8 : decode cX8_watchAt 8 = .ok (.getfield 13, 3) := by decide +kernel
theorem dX8_watchAt_11 : decode cX8_watchAt 11 = .ok (.iload_n 1, 1) := by decide +kernel
theorem dX8_watchAt_12 : decode cX8_watchAt 12 = .ok (.iaload, 1) := by decide +kernel
theorem dX8_watchAt_13 : decode cX8_watchAt 13 = .ok (.ifCond .eq 15, 3) := by decide +kernel
theorem dX8_watchAt_16 : decode cX8_watchAt 16 = .ok (.aload_n 0, 1) := by decide +kernel
theorem dX8_watchAt_17 : decode cX8_watchAt 17 = .ok (.getfield 13, 3) := by decide +kernel
theorem dX8_watchAt_20 : decode cX8_watchAt 20 = .ok (.iload_n 1, 1) := by decide +kernel
theorem dX8_watchAt_21 : decode cX8_watchAt 21 = .ok (.iaload, 1) := by decide +kernel
theorem dX8_watchAt_22 : decode cX8_watchAt 22 = .ok (.iconst 1, 1) := by decide +kernel
theorem dX8_watchAt_23 : decode cX8_watchAt 23 = .ok (.if_icmp .eq 5, 3) := by decide +kernel
theorem dX8_watchAt_26 : decode cX8_watchAt 26 = .ok (.aconst_null, 1) := by decide +kernel
theorem dX8_watchAt_27 : decode cX8_watchAt 27 = .ok (.areturn, 1) := by decide +kernel
end
section
set_option maxHeartbeats 4000000 in
set_option maxRecDepth 100000 in
theorem c_X8_isDay (l : Launch) (D : va_G) (E : Nat → Nat) (p0 : Int32)  : Met l yX8_isDay (wl yX8_isDay cX8_isDay 1 (some .boolean)) (RM 0 0 0) (rd_P D E [.int p0] ([] : va_W)) (rd_Q (fun r => (r = 1 ∧ (0 ≤ p0.toInt ∧ p0.toInt ≤ 399)) ∨ (r = 0 ∧ ¬ (0 ≤ p0.toInt ∧ p0.toInt ≤ 399)))) 0 0 (fun _ => False) := by
  refine Met.ofW (cc := cX8_isDay) (maxL := 1) (ret := (some .boolean)) (by decide) rfl ?_
  intro p e s m args below meth c s₁ B hml hv
  obtain ⟨rfl, hP, hK⟩ := hv
  have hx := B.exec
  have hb := B.bytes
  have hr := B.returns
  have hts := atoms_spec (ws := wl yX8_isDay cX8_isDay 1 (some .boolean)) B.pre
  have htb : ∀ w ∈ tb, w.before _ s = true := fun w h => hts w (List.mem_cons_of_mem _ h)
  have hown : s.vm.findClass RX8 = some m.cls := findClass_of_methodNamed B.named
  have hlocks := B.notSynchronized
  have hP : va_P D vwCl ([] : va_W) s.heap := hP
  have hl := lv_entry ([.int p0]) (n := 1) (Nat.le_of_ble_eq_true rfl)
  rw [lg_entry_eq]
  generalize (lg_sl ([.int p0]) ++ List.replicate (1 - (lg_sl ([.int p0])).length) Slot.unset).toArray = ls at hl ⊢
  have hl : lv_has ls 1 [(0, .int p0)] := hl
  have lo_p0 := i_lo p0
  have hi_p0 := i_hi p0
  refine lv_iload_n hx hb dX8_isDay_0 rfl (lv_at hl 0 rfl) ?_
  refine lv_if_lt (tgt := 15) hx hb dX8_isDay_1 (by decide) (fun c_1 => ?_) (fun c_1 => ?_)
  ·
    have ic_1 : p0.toInt < 0 := by first | exact (g_lt rfl t_0).mp c_1 | (have h := mt (g_le t_0 rfl).mpr c_1; omega)
    refine lv_iconst (v := 0) hx hb dX8_isDay_15 (by decide) ?_
    exact W.zret (v := 0) hx hb hr rfl (fun t ht hW => ⟨0, rfl, by first | exact Or.inr ⟨rfl, by omega⟩ | (exfalso; omega), ht⟩) (fun q h => by cases h) dX8_isDay_16
  ·
    have ic_1 : 0 ≤ p0.toInt := by first | exact (g_le t_0 rfl).mp c_1 | (have h := mt (g_lt rfl t_0).mpr c_1; omega)
    refine lv_iload_n hx hb dX8_isDay_4 rfl (lv_at hl 0 rfl) ?_
    refine lv_sipush (v := 400) hx hb dX8_isDay_5 (by decide) ?_
    refine lv_icmp_ge (tgt := 15) hx hb dX8_isDay_8 (by decide) (fun c_2 => ?_) (fun c_2 => ?_)
    ·
      have ic_2 : 400 ≤ p0.toInt := by first | exact (g_le t_400 rfl).mp c_2 | (have h := mt (g_lt rfl t_400).mpr c_2; omega)
      refine lv_iconst (v := 0) hx hb dX8_isDay_15 (by decide) ?_
      exact W.zret (v := 0) hx hb hr rfl (fun t ht hW => ⟨0, rfl, by first | exact Or.inr ⟨rfl, by omega⟩ | (exfalso; omega), ht⟩) (fun q h => by cases h) dX8_isDay_16
    ·
      have ic_2 : p0.toInt < 400 := by first | exact (g_lt rfl t_400).mp c_2 | (have h := mt (g_le t_400 rfl).mpr c_2; omega)
      refine lv_iconst (v := 1) hx hb dX8_isDay_11 (by decide) ?_
      refine lv_goto (tgt := 16) hx hb dX8_isDay_12 (by decide) ?_
      exact W.zret (v := 1) hx hb hr rfl (fun t ht hW => ⟨1, rfl, by first | exact Or.inl ⟨rfl, by omega⟩ | (exfalso; omega), ht⟩) (fun q h => by cases h) dX8_isDay_16
set_option maxHeartbeats 4000000 in
set_option maxRecDepth 100000 in
theorem c_X8_isPlace (l : Launch) (D : va_G) (E : Nat → Nat) (p0 : Int32)  : Met l yX8_isPlace (wl yX8_isPlace cX8_isPlace 1 (some .boolean)) (RM 0 0 0) (rd_P D E [.int p0] ([] : va_W)) (rd_Q (fun r => (r = 1 ∧ (0 ≤ p0.toInt ∧ p0.toInt ≤ 15)) ∨ (r = 0 ∧ ¬ (0 ≤ p0.toInt ∧ p0.toInt ≤ 15)))) 0 0 (fun _ => False) := by
  refine Met.ofW (cc := cX8_isPlace) (maxL := 1) (ret := (some .boolean)) (by decide) rfl ?_
  intro p e s m args below meth c s₁ B hml hv
  obtain ⟨rfl, hP, hK⟩ := hv
  have hx := B.exec
  have hb := B.bytes
  have hr := B.returns
  have hts := atoms_spec (ws := wl yX8_isPlace cX8_isPlace 1 (some .boolean)) B.pre
  have htb : ∀ w ∈ tb, w.before _ s = true := fun w h => hts w (List.mem_cons_of_mem _ h)
  have hown : s.vm.findClass RX8 = some m.cls := findClass_of_methodNamed B.named
  have hlocks := B.notSynchronized
  have hP : va_P D vwCl ([] : va_W) s.heap := hP
  have hl := lv_entry ([.int p0]) (n := 1) (Nat.le_of_ble_eq_true rfl)
  rw [lg_entry_eq]
  generalize (lg_sl ([.int p0]) ++ List.replicate (1 - (lg_sl ([.int p0])).length) Slot.unset).toArray = ls at hl ⊢
  have hl : lv_has ls 1 [(0, .int p0)] := hl
  have lo_p0 := i_lo p0
  have hi_p0 := i_hi p0
  refine lv_iload_n hx hb dX8_isPlace_0 rfl (lv_at hl 0 rfl) ?_
  refine lv_if_lt (tgt := 14) hx hb dX8_isPlace_1 (by decide) (fun c_1 => ?_) (fun c_1 => ?_)
  ·
    have ic_1 : p0.toInt < 0 := by first | exact (g_lt rfl t_0).mp c_1 | (have h := mt (g_le t_0 rfl).mpr c_1; omega)
    refine lv_iconst (v := 0) hx hb dX8_isPlace_14 (by decide) ?_
    exact W.zret (v := 0) hx hb hr rfl (fun t ht hW => ⟨0, rfl, by first | exact Or.inr ⟨rfl, by omega⟩ | (exfalso; omega), ht⟩) (fun q h => by cases h) dX8_isPlace_15
  ·
    have ic_1 : 0 ≤ p0.toInt := by first | exact (g_le t_0 rfl).mp c_1 | (have h := mt (g_lt rfl t_0).mpr c_1; omega)
    refine lv_iload_n hx hb dX8_isPlace_4 rfl (lv_at hl 0 rfl) ?_
    refine lv_bipush (v := 16) hx hb dX8_isPlace_5 (by decide) ?_
    refine lv_icmp_ge (tgt := 14) hx hb dX8_isPlace_7 (by decide) (fun c_2 => ?_) (fun c_2 => ?_)
    ·
      have ic_2 : 16 ≤ p0.toInt := by first | exact (g_le t_16 rfl).mp c_2 | (have h := mt (g_lt rfl t_16).mpr c_2; omega)
      refine lv_iconst (v := 0) hx hb dX8_isPlace_14 (by decide) ?_
      exact W.zret (v := 0) hx hb hr rfl (fun t ht hW => ⟨0, rfl, by first | exact Or.inr ⟨rfl, by omega⟩ | (exfalso; omega), ht⟩) (fun q h => by cases h) dX8_isPlace_15
    ·
      have ic_2 : p0.toInt < 16 := by first | exact (g_lt rfl t_16).mp c_2 | (have h := mt (g_le t_16 rfl).mpr c_2; omega)
      refine lv_iconst (v := 1) hx hb dX8_isPlace_10 (by decide) ?_
      refine lv_goto (tgt := 15) hx hb dX8_isPlace_11 (by decide) ?_
      exact W.zret (v := 1) hx hb hr rfl (fun t ht hW => ⟨1, rfl, by first | exact Or.inl ⟨rfl, by omega⟩ | (exfalso; omega), ht⟩) (fun q h => by cases h) dX8_isPlace_15
set_option maxHeartbeats 4000000 in
set_option maxRecDepth 100000 in
theorem c_X8_isShip (l : Launch) (D : va_G) (E : Nat → Nat) (p0 : Int32)  : Met l yX8_isShip (wl yX8_isShip cX8_isShip 1 (some .boolean)) (RM 0 0 0) (rd_P D E [.int p0] ([] : va_W)) (rd_Q (fun r => (r = 1 ∧ (0 ≤ p0.toInt ∧ p0.toInt ≤ 4)) ∨ (r = 0 ∧ ¬ (0 ≤ p0.toInt ∧ p0.toInt ≤ 4)))) 0 0 (fun _ => False) := by
  refine Met.ofW (cc := cX8_isShip) (maxL := 1) (ret := (some .boolean)) (by decide) rfl ?_
  intro p e s m args below meth c s₁ B hml hv
  obtain ⟨rfl, hP, hK⟩ := hv
  have hx := B.exec
  have hb := B.bytes
  have hr := B.returns
  have hts := atoms_spec (ws := wl yX8_isShip cX8_isShip 1 (some .boolean)) B.pre
  have htb : ∀ w ∈ tb, w.before _ s = true := fun w h => hts w (List.mem_cons_of_mem _ h)
  have hown : s.vm.findClass RX8 = some m.cls := findClass_of_methodNamed B.named
  have hlocks := B.notSynchronized
  have hP : va_P D vwCl ([] : va_W) s.heap := hP
  have hl := lv_entry ([.int p0]) (n := 1) (Nat.le_of_ble_eq_true rfl)
  rw [lg_entry_eq]
  generalize (lg_sl ([.int p0]) ++ List.replicate (1 - (lg_sl ([.int p0])).length) Slot.unset).toArray = ls at hl ⊢
  have hl : lv_has ls 1 [(0, .int p0)] := hl
  have lo_p0 := i_lo p0
  have hi_p0 := i_hi p0
  refine lv_iload_n hx hb dX8_isShip_0 rfl (lv_at hl 0 rfl) ?_
  refine lv_if_lt (tgt := 13) hx hb dX8_isShip_1 (by decide) (fun c_1 => ?_) (fun c_1 => ?_)
  ·
    have ic_1 : p0.toInt < 0 := by first | exact (g_lt rfl t_0).mp c_1 | (have h := mt (g_le t_0 rfl).mpr c_1; omega)
    refine lv_iconst (v := 0) hx hb dX8_isShip_13 (by decide) ?_
    exact W.zret (v := 0) hx hb hr rfl (fun t ht hW => ⟨0, rfl, by first | exact Or.inr ⟨rfl, by omega⟩ | (exfalso; omega), ht⟩) (fun q h => by cases h) dX8_isShip_14
  ·
    have ic_1 : 0 ≤ p0.toInt := by first | exact (g_le t_0 rfl).mp c_1 | (have h := mt (g_lt rfl t_0).mpr c_1; omega)
    refine lv_iload_n hx hb dX8_isShip_4 rfl (lv_at hl 0 rfl) ?_
    refine lv_iconst (v := 5) hx hb dX8_isShip_5 (by decide) ?_
    refine lv_icmp_ge (tgt := 13) hx hb dX8_isShip_6 (by decide) (fun c_2 => ?_) (fun c_2 => ?_)
    ·
      have ic_2 : 5 ≤ p0.toInt := by first | exact (g_le t_5 rfl).mp c_2 | (have h := mt (g_lt rfl t_5).mpr c_2; omega)
      refine lv_iconst (v := 0) hx hb dX8_isShip_13 (by decide) ?_
      exact W.zret (v := 0) hx hb hr rfl (fun t ht hW => ⟨0, rfl, by first | exact Or.inr ⟨rfl, by omega⟩ | (exfalso; omega), ht⟩) (fun q h => by cases h) dX8_isShip_14
    ·
      have ic_2 : p0.toInt < 5 := by first | exact (g_lt rfl t_5).mp c_2 | (have h := mt (g_le t_5 rfl).mpr c_2; omega)
      refine lv_iconst (v := 1) hx hb dX8_isShip_9 (by decide) ?_
      refine lv_goto (tgt := 14) hx hb dX8_isShip_10 (by decide) ?_
      exact W.zret (v := 1) hx hb hr rfl (fun t ht hW => ⟨1, rfl, by first | exact Or.inl ⟨rfl, by omega⟩ | (exfalso; omega), ht⟩) (fun q h => by cases h) dX8_isShip_14
set_option maxHeartbeats 4000000 in
set_option maxRecDepth 100000 in
theorem c_X8_isKnowledge (l : Launch) (D : va_G) (E : Nat → Nat) (p0 : Int32)  : Met l yX8_isKnowledge (wl yX8_isKnowledge cX8_isKnowledge 1 (some .boolean)) (RM 1 0 0) (rd_P D E [.int p0] ([] : va_W)) (rd_Q (fun r => (r = 1 ∧ (-1 ≤ p0.toInt ∧ p0.toInt ≤ 399)) ∨ (r = 0 ∧ ¬ (-1 ≤ p0.toInt ∧ p0.toInt ≤ 399)))) 0 0 (fun _ => False) := by
  refine Met.ofW (cc := cX8_isKnowledge) (maxL := 1) (ret := (some .boolean)) (by decide) rfl ?_
  intro p e s m args below meth c s₁ B hml hv
  obtain ⟨rfl, hP, hK⟩ := hv
  have hx := B.exec
  have hb := B.bytes
  have hr := B.returns
  have hts := atoms_spec (ws := wl yX8_isKnowledge cX8_isKnowledge 1 (some .boolean)) B.pre
  have htb : ∀ w ∈ tb, w.before _ s = true := fun w h => hts w (List.mem_cons_of_mem _ h)
  have hown : s.vm.findClass RX8 = some m.cls := findClass_of_methodNamed B.named
  have hlocks := B.notSynchronized
  have hP : va_P D vwCl ([] : va_W) s.heap := hP
  have hl := lv_entry ([.int p0]) (n := 1) (Nat.le_of_ble_eq_true rfl)
  rw [lg_entry_eq]
  generalize (lg_sl ([.int p0]) ++ List.replicate (1 - (lg_sl ([.int p0])).length) Slot.unset).toArray = ls at hl ⊢
  have hl : lv_has ls 1 [(0, .int p0)] := hl
  have lo_p0 := i_lo p0
  have hi_p0 := i_hi p0
  refine lv_iload_n hx hb dX8_isKnowledge_0 rfl (lv_at hl 0 rfl) ?_
  refine lv_iconst (v := (-1)) hx hb dX8_isKnowledge_1 (by decide) ?_
  refine lv_icmp_eq (tgt := 12) hx hb dX8_isKnowledge_2 (by decide) (fun c_1 => ?_) (fun c_1 => ?_)
  ·
    have ic_1 : p0.toInt = -1 := (g_eq rfl t_m1).mp c_1
    refine lv_iconst (v := 1) hx hb dX8_isKnowledge_12 (by decide) ?_
    refine lv_goto (tgt := 17) hx hb dX8_isKnowledge_13 (by decide) ?_
    exact W.zret (v := 1) hx hb hr rfl (fun t ht hW => ⟨1, rfl, by first | exact Or.inl ⟨rfl, by omega⟩ | (exfalso; omega), ht⟩) (fun q h => by cases h) dX8_isKnowledge_17
  ·
    have ic_1 : p0.toInt ≠ -1 := mt (g_eq rfl t_m1).mpr c_1
    refine lv_iload_n hx hb dX8_isKnowledge_5 rfl (lv_at hl 0 rfl) ?_
    refine callRS (rest := []) (As := [.int p0]) hx hb hml hown htb hK (c_X8_isDay l D E p0 ) ok_X8_isDay k_323 k_324 k_1 k_325 ⟨(Nat.le_of_ble_eq_true rfl), (Nat.le_of_ble_eq_true rfl)⟩ ⟨(Nat.le_of_ble_eq_true rfl), (Nat.le_of_ble_eq_true rfl)⟩ hl.1 (Nat.le_of_ble_eq_true rfl) rfl rfl dX8_isKnowledge_6 (hP.sub (ws' := ([] : va_W)) [] rfl) (fun r_3 hw_2 => ?_)
    rcases hw_2 with ⟨hr_3, hw_2⟩ | ⟨hr_3, hw_2⟩
    ·
      refine W_top (y := .int 1) (by rw [hr_3]) ?_
      refine lv_if_eq (tgt := 16) hx hb dX8_isKnowledge_9 (by decide) (fun c_4 => absurd c_4 (by decide)) (fun c_4 => ?_)
      refine lv_iconst (v := 1) hx hb dX8_isKnowledge_12 (by decide) ?_
      refine lv_goto (tgt := 17) hx hb dX8_isKnowledge_13 (by decide) ?_
      exact W.zret (v := 1) hx hb hr rfl (fun t ht hW => ⟨1, rfl, by first | exact Or.inl ⟨rfl, by omega⟩ | (exfalso; omega), ht⟩) (fun q h => by cases h) dX8_isKnowledge_17
    ·
      refine W_top (y := .int 0) (by rw [hr_3]) ?_
      refine lv_if_eq (tgt := 16) hx hb dX8_isKnowledge_9 (by decide) (fun c_5 => ?_) (fun c_5 => absurd (by decide) c_5)
      refine lv_iconst (v := 0) hx hb dX8_isKnowledge_16 (by decide) ?_
      exact W.zret (v := 0) hx hb hr rfl (fun t ht hW => ⟨0, rfl, by first | exact Or.inr ⟨rfl, by omega⟩ | (exfalso; omega), ht⟩) (fun q h => by cases h) dX8_isKnowledge_17
set_option maxHeartbeats 4000000 in
set_option maxRecDepth 100000 in
theorem c_X8_isWithin (l : Launch) (D : va_G) (E : Nat → Nat) (p0 : Int32) (p1 : Int32) (g0 : 0 ≤ p1.toInt) : Met l yX8_isWithin (wl yX8_isWithin cX8_isWithin 2 (some .boolean)) (RM 0 0 0) (rd_P D E [.int p0, .int p1] ([] : va_W)) (rd_Q (fun r => (r = 1 ∧ (-p1.toInt ≤ p0.toInt ∧ p0.toInt ≤ p1.toInt)) ∨ (r = 0 ∧ ¬ (-p1.toInt ≤ p0.toInt ∧ p0.toInt ≤ p1.toInt)))) 0 0 (fun _ => False) := by
  refine Met.ofW (cc := cX8_isWithin) (maxL := 2) (ret := (some .boolean)) (by decide) rfl ?_
  intro p e s m args below meth c s₁ B hml hv
  obtain ⟨rfl, hP, hK⟩ := hv
  have hx := B.exec
  have hb := B.bytes
  have hr := B.returns
  have hts := atoms_spec (ws := wl yX8_isWithin cX8_isWithin 2 (some .boolean)) B.pre
  have htb : ∀ w ∈ tb, w.before _ s = true := fun w h => hts w (List.mem_cons_of_mem _ h)
  have hown : s.vm.findClass RX8 = some m.cls := findClass_of_methodNamed B.named
  have hlocks := B.notSynchronized
  have hP : va_P D vwCl ([] : va_W) s.heap := hP
  have hl := lv_entry ([.int p0, .int p1]) (n := 2) (Nat.le_of_ble_eq_true rfl)
  rw [lg_entry_eq]
  generalize (lg_sl ([.int p0, .int p1]) ++ List.replicate (2 - (lg_sl ([.int p0, .int p1])).length) Slot.unset).toArray = ls at hl ⊢
  have hl : lv_has ls 2 [(0, .int p0), (1, .int p1)] := hl
  have lo_p0 := i_lo p0
  have hi_p0 := i_hi p0
  have lo_p1 := i_lo p1
  have hi_p1 := i_hi p1
  refine lv_iload_n hx hb dX8_isWithin_0 rfl (lv_at hl 0 rfl) ?_
  refine lv_iload_n hx hb dX8_isWithin_1 rfl (lv_at hl 1 rfl) ?_
  refine lv_ineg hx hb dX8_isWithin_2 ?_
  refine lv_topi (fun z_1 ez_1 => ?_)
  have jz_1 : z_1.toInt = -p1.toInt := by rw [ez_1]; exact i_neg (by omega)
  refine lv_icmp_lt (tgt := 15) hx hb dX8_isWithin_3 (by decide) (fun c_2 => ?_) (fun c_2 => ?_)
  ·
    have ic_2 : p0.toInt < z_1.toInt := by first | exact (g_lt rfl rfl).mp c_2 | (have h := mt (g_le rfl rfl).mpr c_2; omega)
    refine lv_iconst (v := 0) hx hb dX8_isWithin_15 (by decide) ?_
    exact W.zret (v := 0) hx hb hr rfl (fun t ht hW => ⟨0, rfl, by first | exact Or.inr ⟨rfl, by omega⟩ | (exfalso; omega), ht⟩) (fun q h => by cases h) dX8_isWithin_16
  ·
    have ic_2 : z_1.toInt ≤ p0.toInt := by first | exact (g_le rfl rfl).mp c_2 | (have h := mt (g_lt rfl rfl).mpr c_2; omega)
    refine lv_iload_n hx hb dX8_isWithin_6 rfl (lv_at hl 0 rfl) ?_
    refine lv_iload_n hx hb dX8_isWithin_7 rfl (lv_at hl 1 rfl) ?_
    refine lv_icmp_gt (tgt := 15) hx hb dX8_isWithin_8 (by decide) (fun c_3 => ?_) (fun c_3 => ?_)
    ·
      have ic_3 : p1.toInt < p0.toInt := by first | exact (g_lt rfl rfl).mp c_3 | (have h := mt (g_le rfl rfl).mpr c_3; omega)
      refine lv_iconst (v := 0) hx hb dX8_isWithin_15 (by decide) ?_
      exact W.zret (v := 0) hx hb hr rfl (fun t ht hW => ⟨0, rfl, by first | exact Or.inr ⟨rfl, by omega⟩ | (exfalso; omega), ht⟩) (fun q h => by cases h) dX8_isWithin_16
    ·
      have ic_3 : p0.toInt ≤ p1.toInt := by first | exact (g_le rfl rfl).mp c_3 | (have h := mt (g_lt rfl rfl).mpr c_3; omega)
      refine lv_iconst (v := 1) hx hb dX8_isWithin_11 (by decide) ?_
      refine lv_goto (tgt := 16) hx hb dX8_isWithin_12 (by decide) ?_
      exact W.zret (v := 1) hx hb hr rfl (fun t ht hW => ⟨1, rfl, by first | exact Or.inl ⟨rfl, by omega⟩ | (exfalso; omega), ht⟩) (fun q h => by cases h) dX8_isWithin_16
set_option maxHeartbeats 4000000 in
set_option maxRecDepth 100000 in
theorem c_X8_isStretch (l : Launch) (D : va_G) (E : Nat → Nat) (p0 : Int32) (p1 : Int32)  : Met l yX8_isStretch (wl yX8_isStretch cX8_isStretch 2 (some .boolean)) (RM 1 0 0) (rd_P D E [.int p0, .int p1] ([] : va_W)) (rd_Q (fun r => (r = 1 ∧ (0 ≤ p0.toInt ∧ p1.toInt ≤ 399 ∧ p0.toInt < p1.toInt ∧ p1.toInt - p0.toInt ≤ 60)) ∨ (r = 0 ∧ ¬ (0 ≤ p0.toInt ∧ p1.toInt ≤ 399 ∧ p0.toInt < p1.toInt ∧ p1.toInt - p0.toInt ≤ 60)))) 0 0 (fun _ => False) := by
  refine Met.ofW (cc := cX8_isStretch) (maxL := 2) (ret := (some .boolean)) (by decide) rfl ?_
  intro p e s m args below meth c s₁ B hml hv
  obtain ⟨rfl, hP, hK⟩ := hv
  have hx := B.exec
  have hb := B.bytes
  have hr := B.returns
  have hts := atoms_spec (ws := wl yX8_isStretch cX8_isStretch 2 (some .boolean)) B.pre
  have htb : ∀ w ∈ tb, w.before _ s = true := fun w h => hts w (List.mem_cons_of_mem _ h)
  have hown : s.vm.findClass RX8 = some m.cls := findClass_of_methodNamed B.named
  have hlocks := B.notSynchronized
  have hP : va_P D vwCl ([] : va_W) s.heap := hP
  have hl := lv_entry ([.int p0, .int p1]) (n := 2) (Nat.le_of_ble_eq_true rfl)
  rw [lg_entry_eq]
  generalize (lg_sl ([.int p0, .int p1]) ++ List.replicate (2 - (lg_sl ([.int p0, .int p1])).length) Slot.unset).toArray = ls at hl ⊢
  have hl : lv_has ls 2 [(0, .int p0), (1, .int p1)] := hl
  have lo_p0 := i_lo p0
  have hi_p0 := i_hi p0
  have lo_p1 := i_lo p1
  have hi_p1 := i_hi p1
  refine lv_iload_n hx hb dX8_isStretch_0 rfl (lv_at hl 0 rfl) ?_
  refine callRS (rest := []) (As := [.int p0]) hx hb hml hown htb hK (c_X8_isDay l D E p0 ) ok_X8_isDay k_323 k_324 k_1 k_325 ⟨(Nat.le_of_ble_eq_true rfl), (Nat.le_of_ble_eq_true rfl)⟩ ⟨(Nat.le_of_ble_eq_true rfl), (Nat.le_of_ble_eq_true rfl)⟩ hl.1 (Nat.le_of_ble_eq_true rfl) rfl rfl dX8_isStretch_1 (hP.sub (ws' := ([] : va_W)) [] rfl) (fun r_2 hw_1 => ?_)
  rcases hw_1 with ⟨hr_2, hw_1⟩ | ⟨hr_2, hw_1⟩
  ·
    refine W_top (y := .int 1) (by rw [hr_2]) ?_
    refine lv_if_eq (tgt := 31) hx hb dX8_isStretch_4 (by decide) (fun c_3 => absurd c_3 (by decide)) (fun c_3 => ?_)
    refine lv_iload_n hx hb dX8_isStretch_7 rfl (lv_at hl 1 rfl) ?_
    refine callRS (rest := []) (As := [.int p1]) hx hb hml hown htb hK (c_X8_isDay l D E p1 ) ok_X8_isDay k_323 k_324 k_1 k_325 ⟨(Nat.le_of_ble_eq_true rfl), (Nat.le_of_ble_eq_true rfl)⟩ ⟨(Nat.le_of_ble_eq_true rfl), (Nat.le_of_ble_eq_true rfl)⟩ hl.1 (Nat.le_of_ble_eq_true rfl) rfl rfl dX8_isStretch_8 (hP.sub (ws' := ([] : va_W)) [] rfl) (fun r_5 hw_4 => ?_)
    rcases hw_4 with ⟨hr_5, hw_4⟩ | ⟨hr_5, hw_4⟩
    ·
      refine W_top (y := .int 1) (by rw [hr_5]) ?_
      refine lv_if_eq (tgt := 31) hx hb dX8_isStretch_11 (by decide) (fun c_6 => absurd c_6 (by decide)) (fun c_6 => ?_)
      refine lv_iload_n hx hb dX8_isStretch_14 rfl (lv_at hl 0 rfl) ?_
      refine lv_iload_n hx hb dX8_isStretch_15 rfl (lv_at hl 1 rfl) ?_
      refine lv_icmp_ge (tgt := 31) hx hb dX8_isStretch_16 (by decide) (fun c_7 => ?_) (fun c_7 => ?_)
      ·
        have ic_7 : p1.toInt ≤ p0.toInt := by first | exact (g_le rfl rfl).mp c_7 | (have h := mt (g_lt rfl rfl).mpr c_7; omega)
        refine lv_iconst (v := 0) hx hb dX8_isStretch_31 (by decide) ?_
        exact W.zret (v := 0) hx hb hr rfl (fun t ht hW => ⟨0, rfl, by first | exact Or.inr ⟨rfl, by omega⟩ | (exfalso; omega), ht⟩) (fun q h => by cases h) dX8_isStretch_32
      ·
        have ic_7 : p0.toInt < p1.toInt := by first | exact (g_lt rfl rfl).mp c_7 | (have h := mt (g_le rfl rfl).mpr c_7; omega)
        refine lv_iload_n hx hb dX8_isStretch_19 rfl (lv_at hl 1 rfl) ?_
        refine lv_iload_n hx hb dX8_isStretch_20 rfl (lv_at hl 0 rfl) ?_
        refine lv_isub hx hb dX8_isStretch_21 ?_
        refine lv_topi (fun z_8 ez_8 => ?_)
        have jz_8 : z_8.toInt = p1.toInt - p0.toInt := by rw [ez_8]; exact g_sub rfl rfl (by omega) (by omega)
        refine lv_bipush (v := 60) hx hb dX8_isStretch_22 (by decide) ?_
        refine lv_icmp_gt (tgt := 31) hx hb dX8_isStretch_24 (by decide) (fun c_9 => ?_) (fun c_9 => ?_)
        ·
          have ic_9 : 60 < z_8.toInt := by first | exact (g_lt t_60 rfl).mp c_9 | (have h := mt (g_le rfl t_60).mpr c_9; omega)
          refine lv_iconst (v := 0) hx hb dX8_isStretch_31 (by decide) ?_
          exact W.zret (v := 0) hx hb hr rfl (fun t ht hW => ⟨0, rfl, by first | exact Or.inr ⟨rfl, by omega⟩ | (exfalso; omega), ht⟩) (fun q h => by cases h) dX8_isStretch_32
        ·
          have ic_9 : z_8.toInt ≤ 60 := by first | exact (g_le rfl t_60).mp c_9 | (have h := mt (g_lt t_60 rfl).mpr c_9; omega)
          refine lv_iconst (v := 1) hx hb dX8_isStretch_27 (by decide) ?_
          refine lv_goto (tgt := 32) hx hb dX8_isStretch_28 (by decide) ?_
          exact W.zret (v := 1) hx hb hr rfl (fun t ht hW => ⟨1, rfl, by first | exact Or.inl ⟨rfl, by omega⟩ | (exfalso; omega), ht⟩) (fun q h => by cases h) dX8_isStretch_32
    ·
      refine W_top (y := .int 0) (by rw [hr_5]) ?_
      refine lv_if_eq (tgt := 31) hx hb dX8_isStretch_11 (by decide) (fun c_10 => ?_) (fun c_10 => absurd (by decide) c_10)
      refine lv_iconst (v := 0) hx hb dX8_isStretch_31 (by decide) ?_
      exact W.zret (v := 0) hx hb hr rfl (fun t ht hW => ⟨0, rfl, by first | exact Or.inr ⟨rfl, by omega⟩ | (exfalso; omega), ht⟩) (fun q h => by cases h) dX8_isStretch_32
  ·
    refine W_top (y := .int 0) (by rw [hr_2]) ?_
    refine lv_if_eq (tgt := 31) hx hb dX8_isStretch_4 (by decide) (fun c_11 => ?_) (fun c_11 => absurd (by decide) c_11)
    refine lv_iconst (v := 0) hx hb dX8_isStretch_31 (by decide) ?_
    exact W.zret (v := 0) hx hb hr rfl (fun t ht hW => ⟨0, rfl, by first | exact Or.inr ⟨rfl, by omega⟩ | (exfalso; omega), ht⟩) (fun q h => by cases h) dX8_isStretch_32
set_option maxHeartbeats 4000000 in
set_option maxRecDepth 100000 in
theorem c_X8_fitsKind (l : Launch) (D : va_G) (E : Nat → Nat) (p0 : Int32) (p1 : Int32)  : Met l yX8_fitsKind (wl yX8_fitsKind cX8_fitsKind 2 (some .boolean)) (RM 1 0 0) (rd_P D E [.int p0, .int p1] ([] : va_W)) (rd_Q (fun r => (r = 1 ∧ ((p0.toInt = 0 ∧ p1.toInt = 0) ∨ (p0.toInt = 1 ∧ -50 ≤ p1.toInt ∧ p1.toInt ≤ 50) ∨ p0.toInt = 2)) ∨ (r = 0 ∧ ¬ ((p0.toInt = 0 ∧ p1.toInt = 0) ∨ (p0.toInt = 1 ∧ -50 ≤ p1.toInt ∧ p1.toInt ≤ 50) ∨ p0.toInt = 2)))) 0 0 (fun _ => False) := by
  refine Met.ofW (cc := cX8_fitsKind) (maxL := 2) (ret := (some .boolean)) (by decide) rfl ?_
  intro p e s m args below meth c s₁ B hml hv
  obtain ⟨rfl, hP, hK⟩ := hv
  have hx := B.exec
  have hb := B.bytes
  have hr := B.returns
  have hts := atoms_spec (ws := wl yX8_fitsKind cX8_fitsKind 2 (some .boolean)) B.pre
  have htb : ∀ w ∈ tb, w.before _ s = true := fun w h => hts w (List.mem_cons_of_mem _ h)
  have hown : s.vm.findClass RX8 = some m.cls := findClass_of_methodNamed B.named
  have hlocks := B.notSynchronized
  have hP : va_P D vwCl ([] : va_W) s.heap := hP
  have hl := lv_entry ([.int p0, .int p1]) (n := 2) (Nat.le_of_ble_eq_true rfl)
  rw [lg_entry_eq]
  generalize (lg_sl ([.int p0, .int p1]) ++ List.replicate (2 - (lg_sl ([.int p0, .int p1])).length) Slot.unset).toArray = ls at hl ⊢
  have hl : lv_has ls 2 [(0, .int p0), (1, .int p1)] := hl
  have lo_p0 := i_lo p0
  have hi_p0 := i_hi p0
  have lo_p1 := i_lo p1
  have hi_p1 := i_hi p1
  refine lv_iload_n hx hb dX8_fitsKind_0 rfl (lv_at hl 0 rfl) ?_
  refine lv_if_ne (tgt := 8) hx hb dX8_fitsKind_1 (by decide) (fun c_1 => ?_) (fun c_1 => ?_)
  ·
    have ic_1 : p0.toInt ≠ 0 := mt (g_eq rfl t_0).mpr c_1
    refine lv_iload_n hx hb dX8_fitsKind_8 rfl (lv_at hl 0 rfl) ?_
    refine lv_iconst (v := 1) hx hb dX8_fitsKind_9 (by decide) ?_
    refine lv_icmp_ne (tgt := 22) hx hb dX8_fitsKind_10 (by decide) (fun c_2 => ?_) (fun c_2 => ?_)
    ·
      have ic_2 : p0.toInt ≠ 1 := mt (g_eq rfl t_1).mpr c_2
      refine lv_iload_n hx hb dX8_fitsKind_22 rfl (lv_at hl 0 rfl) ?_
      refine lv_iconst (v := 2) hx hb dX8_fitsKind_23 (by decide) ?_
      refine lv_icmp_ne (tgt := 31) hx hb dX8_fitsKind_24 (by decide) (fun c_3 => ?_) (fun c_3 => ?_)
      ·
        have ic_3 : p0.toInt ≠ 2 := mt (g_eq rfl t_2).mpr c_3
        refine lv_iconst (v := 0) hx hb dX8_fitsKind_31 (by decide) ?_
        exact W.zret (v := 0) hx hb hr rfl (fun t ht hW => ⟨0, rfl, by first | exact Or.inr ⟨rfl, by omega⟩ | (exfalso; omega), ht⟩) (fun q h => by cases h) dX8_fitsKind_32
      ·
        have ic_3 : p0.toInt = 2 := (g_eq rfl t_2).mp c_3
        refine lv_iconst (v := 1) hx hb dX8_fitsKind_27 (by decide) ?_
        refine lv_goto (tgt := 32) hx hb dX8_fitsKind_28 (by decide) ?_
        exact W.zret (v := 1) hx hb hr rfl (fun t ht hW => ⟨1, rfl, by first | exact Or.inl ⟨rfl, by omega⟩ | (exfalso; omega), ht⟩) (fun q h => by cases h) dX8_fitsKind_32
    ·
      have ic_2 : p0.toInt = 1 := (g_eq rfl t_1).mp c_2
      refine lv_iload_n hx hb dX8_fitsKind_13 rfl (lv_at hl 1 rfl) ?_
      refine lv_bipush (v := 50) hx hb dX8_fitsKind_14 (by decide) ?_
      refine callRS (rest := []) (As := [.int p1, .int 50]) hx hb hml hown htb hK (c_X8_isWithin l D E p1 50 (by decide)) ok_X8_isWithin k_326 k_327 k_1 k_328 ⟨(Nat.le_of_ble_eq_true rfl), (Nat.le_of_ble_eq_true rfl)⟩ ⟨(Nat.le_of_ble_eq_true rfl), (Nat.le_of_ble_eq_true rfl)⟩ hl.1 (Nat.le_of_ble_eq_true rfl) rfl rfl dX8_fitsKind_16 (hP.sub (ws' := ([] : va_W)) [] rfl) (fun r_5 hw_4 => ?_)
      rcases hw_4 with ⟨hr_5, hw_4⟩ | ⟨hr_5, hw_4⟩
      ·
        try simp only [t_50] at hw_4
        refine W_top (y := .int 1) (by rw [hr_5]) ?_
        refine lv_if_ne (tgt := 27) hx hb dX8_fitsKind_19 (by decide) (fun c_6 => ?_) (fun c_6 => absurd c_6 (by decide))
        refine lv_iconst (v := 1) hx hb dX8_fitsKind_27 (by decide) ?_
        refine lv_goto (tgt := 32) hx hb dX8_fitsKind_28 (by decide) ?_
        exact W.zret (v := 1) hx hb hr rfl (fun t ht hW => ⟨1, rfl, by first | exact Or.inl ⟨rfl, by omega⟩ | (exfalso; omega), ht⟩) (fun q h => by cases h) dX8_fitsKind_32
      ·
        try simp only [t_50] at hw_4
        refine W_top (y := .int 0) (by rw [hr_5]) ?_
        refine lv_if_ne (tgt := 27) hx hb dX8_fitsKind_19 (by decide) (fun c_7 => absurd (by decide) c_7) (fun c_7 => ?_)
        refine lv_iload_n hx hb dX8_fitsKind_22 rfl (lv_at hl 0 rfl) ?_
        refine lv_iconst (v := 2) hx hb dX8_fitsKind_23 (by decide) ?_
        refine lv_icmp_ne (tgt := 31) hx hb dX8_fitsKind_24 (by decide) (fun c_8 => ?_) (fun c_8 => absurd c_8 (by rw [g_eq rfl t_2]; omega))
        refine lv_iconst (v := 0) hx hb dX8_fitsKind_31 (by decide) ?_
        exact W.zret (v := 0) hx hb hr rfl (fun t ht hW => ⟨0, rfl, by first | exact Or.inr ⟨rfl, by omega⟩ | (exfalso; omega), ht⟩) (fun q h => by cases h) dX8_fitsKind_32
  ·
    have ic_1 : p0.toInt = 0 := (g_eq rfl t_0).mp c_1
    refine lv_iload_n hx hb dX8_fitsKind_4 rfl (lv_at hl 1 rfl) ?_
    refine lv_if_eq (tgt := 27) hx hb dX8_fitsKind_5 (by decide) (fun c_9 => ?_) (fun c_9 => ?_)
    ·
      have ic_9 : p1.toInt = 0 := (g_eq rfl t_0).mp c_9
      refine lv_iconst (v := 1) hx hb dX8_fitsKind_27 (by decide) ?_
      refine lv_goto (tgt := 32) hx hb dX8_fitsKind_28 (by decide) ?_
      exact W.zret (v := 1) hx hb hr rfl (fun t ht hW => ⟨1, rfl, by first | exact Or.inl ⟨rfl, by omega⟩ | (exfalso; omega), ht⟩) (fun q h => by cases h) dX8_fitsKind_32
    ·
      have ic_9 : p1.toInt ≠ 0 := mt (g_eq rfl t_0).mpr c_9
      refine lv_iload_n hx hb dX8_fitsKind_8 rfl (lv_at hl 0 rfl) ?_
      refine lv_iconst (v := 1) hx hb dX8_fitsKind_9 (by decide) ?_
      refine lv_icmp_ne (tgt := 22) hx hb dX8_fitsKind_10 (by decide) (fun c_10 => ?_) (fun c_10 => absurd c_10 (by rw [g_eq rfl t_1]; omega))
      refine lv_iload_n hx hb dX8_fitsKind_22 rfl (lv_at hl 0 rfl) ?_
      refine lv_iconst (v := 2) hx hb dX8_fitsKind_23 (by decide) ?_
      refine lv_icmp_ne (tgt := 31) hx hb dX8_fitsKind_24 (by decide) (fun c_11 => ?_) (fun c_11 => absurd c_11 (by rw [g_eq rfl t_2]; omega))
      refine lv_iconst (v := 0) hx hb dX8_fitsKind_31 (by decide) ?_
      exact W.zret (v := 0) hx hb hr rfl (fun t ht hW => ⟨0, rfl, by first | exact Or.inr ⟨rfl, by omega⟩ | (exfalso; omega), ht⟩) (fun q h => by cases h) dX8_fitsKind_32
end
section
set_option maxHeartbeats 4000000 in
set_option maxRecDepth 100000 in
theorem c_X8_isPast (l : Launch) (D : va_G) (E : Nat → Nat) (h0 : Nat) (a : Nat → Nat) (p0 : Int32)  : Met l yX8_isPast (wl yX8_isPast cX8_isPast 2 (some .boolean)) (RM 0 0 0) (rd_P D E [.ref h0, .int p0] [(h0, .inr (8, xF a 0))]) (rd_Q (fun r => (r = 1 ∧ (0 ≤ p0.toInt ∧ p0.toInt ≤ 0)) ∨ (r = 0 ∧ ¬ (0 ≤ p0.toInt ∧ p0.toInt ≤ 0)))) 0 0 (fun _ => False) := by
  refine Met.ofW (cc := cX8_isPast) (maxL := 2) (ret := (some .boolean)) (by decide) rfl ?_
  intro p e s m args below meth c s₁ B hml hv
  obtain ⟨rfl, hP, hK⟩ := hv
  have hx := B.exec
  have hb := B.bytes
  have hr := B.returns
  have hts := atoms_spec (ws := wl yX8_isPast cX8_isPast 2 (some .boolean)) B.pre
  have htb : ∀ w ∈ tb, w.before _ s = true := fun w h => hts w (List.mem_cons_of_mem _ h)
  have hown : s.vm.findClass RX8 = some m.cls := findClass_of_methodNamed B.named
  have hlocks := B.notSynchronized
  have hP : va_P D vwCl [(h0, .inr (8, xF a 0))] s.heap := hP
  have hl := lv_entry ([.ref h0, .int p0]) (n := 2) (Nat.le_of_ble_eq_true rfl)
  rw [lg_entry_eq]
  generalize (lg_sl ([.ref h0, .int p0]) ++ List.replicate (2 - (lg_sl ([.ref h0, .int p0])).length) Slot.unset).toArray = ls at hl ⊢
  have hl : lv_has ls 2 [(0, .ref h0), (1, .int p0)] := hl
  have lo_p0 := i_lo p0
  have hi_p0 := i_hi p0
  refine lv_iload_n hx hb dX8_isPast_0 rfl (lv_at hl 1 rfl) ?_
  refine lv_if_lt (tgt := 16) hx hb dX8_isPast_1 (by decide) (fun c_1 => ?_) (fun c_1 => ?_)
  ·
    have ic_1 : p0.toInt < 0 := by first | exact (g_lt rfl t_0).mp c_1 | (have h := mt (g_le t_0 rfl).mpr c_1; omega)
    refine lv_iconst (v := 0) hx hb dX8_isPast_16 (by decide) ?_
    exact W.zret (v := 0) hx hb hr rfl (fun t ht hW => ⟨0, rfl, by first | exact Or.inr ⟨rfl, by omega⟩ | (exfalso; omega), ht⟩) (fun q h => by cases h) dX8_isPast_17
  ·
    have ic_1 : 0 ≤ p0.toInt := by first | exact (g_le t_0 rfl).mp c_1 | (have h := mt (g_lt rfl t_0).mpr c_1; omega)
    refine lv_iload_n hx hb dX8_isPast_4 rfl (lv_at hl 1 rfl) ?_
    refine lv_aload_n hx hb dX8_isPast_5 rfl (lv_at hl 0 rfl) ?_
    refine va_get (D := D) (ci := 8) (v := .int 0) (C := RX8) (T := TX8) (N := 14) hx hb htb iX8 hown hK.1 hP 0 rfl rfl 13 (by decide) (htb _ k_285) (fun _ h9 => h9) rfl dX8_isPast_6 ?_
    refine lv_icmp_gt (tgt := 16) hx hb dX8_isPast_9 (by decide) (fun c_2 => ?_) (fun c_2 => ?_)
    ·
      have ic_2 : 0 < p0.toInt := by first | exact (g_lt t_0 rfl).mp c_2 | (have h := mt (g_le rfl t_0).mpr c_2; omega)
      refine lv_iconst (v := 0) hx hb dX8_isPast_16 (by decide) ?_
      exact W.zret (v := 0) hx hb hr rfl (fun t ht hW => ⟨0, rfl, by first | exact Or.inr ⟨rfl, by omega⟩ | (exfalso; omega), ht⟩) (fun q h => by cases h) dX8_isPast_17
    ·
      have ic_2 : p0.toInt ≤ 0 := by first | exact (g_le rfl t_0).mp c_2 | (have h := mt (g_lt t_0 rfl).mpr c_2; omega)
      refine lv_iconst (v := 1) hx hb dX8_isPast_12 (by decide) ?_
      refine lv_goto (tgt := 17) hx hb dX8_isPast_13 (by decide) ?_
      exact W.zret (v := 1) hx hb hr rfl (fun t ht hW => ⟨1, rfl, by first | exact Or.inl ⟨rfl, by omega⟩ | (exfalso; omega), ht⟩) (fun q h => by cases h) dX8_isPast_17
set_option maxHeartbeats 4000000 in
set_option maxRecDepth 100000 in
theorem c_X8_watchAt (l : Launch) (D : va_G) (E : Nat → Nat) (h0 : Nat) (a : Nat → Nat) (p0 : Int32)  : Met l yX8_watchAt (wl yX8_watchAt cX8_watchAt 2 (some (.object "SeaWatches$Watch"))) (RM 1 0 0) (rd_P D E [.ref h0, .int p0] [(h0, .inr (8, xF a 0)), ((a 1), .inl (E 0, 16, .inl (fun _ => -5)))]) rn_Q 0 0 (fun _ => False) := by
  refine Met.ofW (cc := cX8_watchAt) (maxL := 2) (ret := (some (.object "SeaWatches$Watch"))) (by decide) rfl ?_
  intro p e s m args below meth c s₁ B hml hv
  obtain ⟨rfl, hP, hK⟩ := hv
  have hx := B.exec
  have hb := B.bytes
  have hr := B.returns
  have hts := atoms_spec (ws := wl yX8_watchAt cX8_watchAt 2 (some (.object "SeaWatches$Watch"))) B.pre
  have htb : ∀ w ∈ tb, w.before _ s = true := fun w h => hts w (List.mem_cons_of_mem _ h)
  have hown : s.vm.findClass RX8 = some m.cls := findClass_of_methodNamed B.named
  have hlocks := B.notSynchronized
  have hP : va_P D vwCl [(h0, .inr (8, xF a 0)), ((a 1), .inl (E 0, 16, .inl (fun _ => -5)))] s.heap := hP
  have hl := lv_entry ([.ref h0, .int p0]) (n := 2) (Nat.le_of_ble_eq_true rfl)
  rw [lg_entry_eq]
  generalize (lg_sl ([.ref h0, .int p0]) ++ List.replicate (2 - (lg_sl ([.ref h0, .int p0])).length) Slot.unset).toArray = ls at hl ⊢
  have hl : lv_has ls 2 [(0, .ref h0), (1, .int p0)] := hl
  have lo_p0 := i_lo p0
  have hi_p0 := i_hi p0
  refine lv_iload_n hx hb dX8_watchAt_0 rfl (lv_at hl 1 rfl) ?_
  refine callRS (rest := []) (As := [.int p0]) hx hb hml hown htb hK (c_X8_isPlace l D E p0 ) ok_X8_isPlace k_333 k_334 k_1 k_335 ⟨(Nat.le_of_ble_eq_true rfl), (Nat.le_of_ble_eq_true rfl)⟩ ⟨(Nat.le_of_ble_eq_true rfl), (Nat.le_of_ble_eq_true rfl)⟩ hl.1 (Nat.le_of_ble_eq_true rfl) rfl rfl dX8_watchAt_1 (hP.sub (ws' := ([] : va_W)) [] rfl) (fun r_2 hw_1 => ?_)
  rcases hw_1 with ⟨hr_2, hw_1⟩ | ⟨hr_2, hw_1⟩
  ·
    refine W_top (y := .int 1) (by rw [hr_2]) ?_
    refine lv_if_eq (tgt := 26) hx hb dX8_watchAt_4 (by decide) (fun c_3 => absurd c_3 (by decide)) (fun c_3 => ?_)
    refine lv_aload_n hx hb dX8_watchAt_7 rfl (lv_at hl 0 rfl) ?_
    refine va_get (D := D) (ci := 8) (v := .ref (a 1)) (C := RX8) (T := TX8) (N := 14) hx hb htb iX8 hown hK.1 hP 0 rfl rfl 1 (by decide) (htb _ k_273) (fun _ h9 => h9) rfl dX8_watchAt_8 ?_
    refine lv_iload_n hx hb dX8_watchAt_11 rfl (lv_at hl 1 rfl) ?_
    refine va_iald hx hb hK.1 hP 1 0 rfl rfl (g_in rfl (by omega) (by omega)) dX8_watchAt_12 ?_
    refine W_top (y := .int (-5)) rfl ?_
    refine lv_if_eq (tgt := 28) hx hb dX8_watchAt_13 (by decide) (fun c_4 => absurd c_4 (by decide)) (fun c_4 => ?_)
    refine lv_aload_n hx hb dX8_watchAt_16 rfl (lv_at hl 0 rfl) ?_
    refine va_get (D := D) (ci := 8) (v := .ref (a 1)) (C := RX8) (T := TX8) (N := 14) hx hb htb iX8 hown hK.1 hP 0 rfl rfl 1 (by decide) (htb _ k_273) (fun _ h9 => h9) rfl dX8_watchAt_17 ?_
    refine lv_iload_n hx hb dX8_watchAt_20 rfl (lv_at hl 1 rfl) ?_
    refine va_iald hx hb hK.1 hP 1 0 rfl rfl (g_in rfl (by omega) (by omega)) dX8_watchAt_21 ?_
    refine W_top (y := .int (-5)) rfl ?_
    refine lv_iconst (v := 1) hx hb dX8_watchAt_22 (by decide) ?_
    refine lv_icmp_eq (tgt := 28) hx hb dX8_watchAt_23 (by decide) (fun c_5 => absurd c_5 (by decide)) (fun c_5 => ?_)
    refine lv_null hx hb dX8_watchAt_26 ?_
    exact W.aret hx hb hr (Or.inl ⟨_, rfl⟩) (Or.inl rfl) (fun t ht hW => ⟨rfl, ht⟩) (fun q h => by cases h) dX8_watchAt_27
  ·
    refine W_top (y := .int 0) (by rw [hr_2]) ?_
    refine lv_if_eq (tgt := 26) hx hb dX8_watchAt_4 (by decide) (fun c_6 => ?_) (fun c_6 => absurd (by decide) c_6)
    refine lv_null hx hb dX8_watchAt_26 ?_
    exact W.aret hx hb hr (Or.inl ⟨_, rfl⟩) (Or.inl rfl) (fun t ht hW => ⟨rfl, ht⟩) (fun q h => by cases h) dX8_watchAt_27
set_option maxHeartbeats 4000000 in
set_option maxRecDepth 100000 in
theorem c_X8_lackAt (l : Launch) (D : va_G) (E : Nat → Nat) (h0 : Nat) (a : Nat → Nat) (p0 : Int32)  : Met l yX8_lackAt (wl yX8_lackAt cX8_lackAt 2 (some .int)) (RM 1 0 0) (rd_P D E [.ref h0, .int p0] [(h0, .inr (8, xF a 0)), ((a 1), .inl (E 0, 16, .inl (fun _ => -5)))]) (rd_Q (fun r => (r = (-2) ∧ (0 ≤ p0.toInt ∧ p0.toInt ≤ 15)) ∨ (r = (-1) ∧ ¬ (0 ≤ p0.toInt ∧ p0.toInt ≤ 15)))) 0 0 (fun _ => False) := by
  refine Met.ofW (cc := cX8_lackAt) (maxL := 2) (ret := (some .int)) (by decide) rfl ?_
  intro p e s m args below meth c s₁ B hml hv
  obtain ⟨rfl, hP, hK⟩ := hv
  have hx := B.exec
  have hb := B.bytes
  have hr := B.returns
  have hts := atoms_spec (ws := wl yX8_lackAt cX8_lackAt 2 (some .int)) B.pre
  have htb : ∀ w ∈ tb, w.before _ s = true := fun w h => hts w (List.mem_cons_of_mem _ h)
  have hown : s.vm.findClass RX8 = some m.cls := findClass_of_methodNamed B.named
  have hlocks := B.notSynchronized
  have hP : va_P D vwCl [(h0, .inr (8, xF a 0)), ((a 1), .inl (E 0, 16, .inl (fun _ => -5)))] s.heap := hP
  have hl := lv_entry ([.ref h0, .int p0]) (n := 2) (Nat.le_of_ble_eq_true rfl)
  rw [lg_entry_eq]
  generalize (lg_sl ([.ref h0, .int p0]) ++ List.replicate (2 - (lg_sl ([.ref h0, .int p0])).length) Slot.unset).toArray = ls at hl ⊢
  have hl : lv_has ls 2 [(0, .ref h0), (1, .int p0)] := hl
  have lo_p0 := i_lo p0
  have hi_p0 := i_hi p0
  refine lv_iload_n hx hb dX8_lackAt_0 rfl (lv_at hl 1 rfl) ?_
  refine callRS (rest := []) (As := [.int p0]) hx hb hml hown htb hK (c_X8_isPlace l D E p0 ) ok_X8_isPlace k_333 k_334 k_1 k_335 ⟨(Nat.le_of_ble_eq_true rfl), (Nat.le_of_ble_eq_true rfl)⟩ ⟨(Nat.le_of_ble_eq_true rfl), (Nat.le_of_ble_eq_true rfl)⟩ hl.1 (Nat.le_of_ble_eq_true rfl) rfl rfl dX8_lackAt_1 (hP.sub (ws' := ([] : va_W)) [] rfl) (fun r_2 hw_1 => ?_)
  rcases hw_1 with ⟨hr_2, hw_1⟩ | ⟨hr_2, hw_1⟩
  ·
    refine W_top (y := .int 1) (by rw [hr_2]) ?_
    refine lv_if_ne (tgt := 9) hx hb dX8_lackAt_4 (by decide) (fun c_3 => ?_) (fun c_3 => absurd c_3 (by decide))
    refine lv_aload_n hx hb dX8_lackAt_9 rfl (lv_at hl 0 rfl) ?_
    refine va_get (D := D) (ci := 8) (v := .ref (a 1)) (C := RX8) (T := TX8) (N := 14) hx hb htb iX8 hown hK.1 hP 0 rfl rfl 1 (by decide) (htb _ k_273) (fun _ h9 => h9) rfl dX8_lackAt_10 ?_
    refine lv_iload_n hx hb dX8_lackAt_13 rfl (lv_at hl 1 rfl) ?_
    refine va_iald hx hb hK.1 hP 1 0 rfl rfl (g_in rfl (by omega) (by omega)) dX8_lackAt_14 ?_
    refine W_top (y := .int (-5)) rfl ?_
    refine lv_bipush (v := (-5)) hx hb dX8_lackAt_15 (by decide) ?_
    refine lv_icmp_ne (tgt := 25) hx hb dX8_lackAt_17 (by decide) (fun c_4 => absurd (by decide) c_4) (fun c_4 => ?_)
    refine lv_bipush (v := (-2)) hx hb dX8_lackAt_20 (by decide) ?_
    refine lv_goto (tgt := 27) hx hb dX8_lackAt_22 (by decide) ?_
    exact W.iret (v := (-2)) hx hb hr (fun t ht hW => ⟨(-2), rfl, by first | exact Or.inl ⟨rfl, by omega⟩ | (exfalso; omega), ht⟩) (fun q h => by cases h) dX8_lackAt_27
  ·
    refine W_top (y := .int 0) (by rw [hr_2]) ?_
    refine lv_if_ne (tgt := 9) hx hb dX8_lackAt_4 (by decide) (fun c_5 => absurd (by decide) c_5) (fun c_5 => ?_)
    refine lv_iconst (v := (-1)) hx hb dX8_lackAt_7 (by decide) ?_
    exact W.iret (v := (-1)) hx hb hr (fun t ht hW => ⟨(-1), rfl, by first | exact Or.inr ⟨rfl, by omega⟩ | (exfalso; omega), ht⟩) (fun q h => by cases h) dX8_lackAt_8
set_option maxHeartbeats 4000000 in
set_option maxRecDepth 100000 in
theorem c_X8_firstLack (l : Launch) (D : va_G) (E : Nat → Nat) (h0 : Nat) (a : Nat → Nat) (p0 : Int32) (p1 : Int32) (p2 : Int32)  : Met l yX8_firstLack (wl yX8_firstLack cX8_firstLack 4 (some .int)) (RM 2 0 0) (rd_P D E [.ref h0, .int p0, .int p1, .int p2] [(h0, .inr (8, xF a 0)), ((a 1), .inl (E 0, 16, .inl (fun _ => -5)))]) (rd_Q (fun r => (r = (-2) ∧ (0 ≤ p0.toInt ∧ p0.toInt ≤ 15)) ∨ (r = (-1) ∧ ¬ (0 ≤ p0.toInt ∧ p0.toInt ≤ 15)))) 0 0 (fun _ => False) := by
  refine Met.ofW (cc := cX8_firstLack) (maxL := 4) (ret := (some .int)) (by decide) rfl ?_
  intro p e s m args below meth c s₁ B hml hv
  obtain ⟨rfl, hP, hK⟩ := hv
  have hx := B.exec
  have hb := B.bytes
  have hr := B.returns
  have hts := atoms_spec (ws := wl yX8_firstLack cX8_firstLack 4 (some .int)) B.pre
  have htb : ∀ w ∈ tb, w.before _ s = true := fun w h => hts w (List.mem_cons_of_mem _ h)
  have hown : s.vm.findClass RX8 = some m.cls := findClass_of_methodNamed B.named
  have hlocks := B.notSynchronized
  have hP : va_P D vwCl [(h0, .inr (8, xF a 0)), ((a 1), .inl (E 0, 16, .inl (fun _ => -5)))] s.heap := hP
  have hl := lv_entry ([.ref h0, .int p0, .int p1, .int p2]) (n := 4) (Nat.le_of_ble_eq_true rfl)
  rw [lg_entry_eq]
  generalize (lg_sl ([.ref h0, .int p0, .int p1, .int p2]) ++ List.replicate (4 - (lg_sl ([.ref h0, .int p0, .int p1, .int p2])).length) Slot.unset).toArray = ls at hl ⊢
  have hl : lv_has ls 4 [(0, .ref h0), (1, .int p0), (2, .int p1), (3, .int p2)] := hl
  have lo_p0 := i_lo p0
  have hi_p0 := i_hi p0
  have lo_p1 := i_lo p1
  have hi_p1 := i_hi p1
  have lo_p2 := i_lo p2
  have hi_p2 := i_hi p2
  refine lv_aload_n hx hb dX8_firstLack_0 rfl (lv_at hl 0 rfl) ?_
  refine lv_iload_n hx hb dX8_firstLack_1 rfl (lv_at hl 1 rfl) ?_
  refine callNV (rest := []) (As := [.int p0]) hx hb hml hown htb hK (c_X8_watchAt l D E h0 a p0 ) ok_X8_watchAt k_369 k_371 ks_1 k_1 k_372 ⟨(Nat.le_of_ble_eq_true rfl), (Nat.le_of_ble_eq_true rfl)⟩ ⟨(Nat.le_of_ble_eq_true rfl), (Nat.le_of_ble_eq_true rfl)⟩ hl.1 (Nat.le_of_ble_eq_true rfl) rfl rfl dX8_firstLack_2 (hP.sub (ws' := [(h0, .inr (8, xF a 0)), ((a 1), .inl (E 0, 16, .inl (fun _ => -5)))]) [0, 1] rfl) rfl rfl 0 rfl ?_
  refine lv_ifnonnullN hx hb dX8_firstLack_5 ?_
  refine lv_aload_n hx hb dX8_firstLack_8 rfl (lv_at hl 0 rfl) ?_
  refine lv_iload_n hx hb dX8_firstLack_9 rfl (lv_at hl 1 rfl) ?_
  refine callRV (rest := []) (As := [.int p0]) hx hb hml hown htb hK (c_X8_lackAt l D E h0 a p0 ) ok_X8_lackAt k_396 k_398 ks_3 k_1 k_399 ⟨(Nat.le_of_ble_eq_true rfl), (Nat.le_of_ble_eq_true rfl)⟩ ⟨(Nat.le_of_ble_eq_true rfl), (Nat.le_of_ble_eq_true rfl)⟩ hl.1 (Nat.le_of_ble_eq_true rfl) rfl rfl dX8_firstLack_10 (hP.sub (ws' := [(h0, .inr (8, xF a 0)), ((a 1), .inl (E 0, 16, .inl (fun _ => -5)))]) [0, 1] rfl) rfl rfl 0 rfl (fun r_3 hw_2 => ?_)
  rcases hw_2 with ⟨hr_3, hw_2⟩ | ⟨hr_3, hw_2⟩
  ·
    refine W_top (y := .int (-2)) (by rw [hr_3]) ?_
    exact W.iret (v := (-2)) hx hb hr (fun t ht hW => ⟨(-2), rfl, by first | exact Or.inl ⟨rfl, by omega⟩ | (exfalso; omega), ht⟩) (fun q h => by cases h) dX8_firstLack_13
  ·
    refine W_top (y := .int (-1)) (by rw [hr_3]) ?_
    exact W.iret (v := (-1)) hx hb hr (fun t ht hW => ⟨(-1), rfl, by first | exact Or.inr ⟨rfl, by omega⟩ | (exfalso; omega), ht⟩) (fun q h => by cases h) dX8_firstLack_13
set_option maxHeartbeats 4000000 in
set_option maxRecDepth 100000 in
theorem c_X8_refusalOfStretch (l : Launch) (D : va_G) (E : Nat → Nat) (h0 : Nat) (a : Nat → Nat) (p0 : Int32) (p1 : Int32) (p2 : Int32)  : Met l yX8_refusalOfStretch (wl yX8_refusalOfStretch cX8_refusalOfStretch 4 (some .int)) (RM 2 0 0) (rd_P D E [.ref h0, .int p0, .int p1, .int p2] [(h0, .inr (8, xF a 0)), ((a 1), .inl (E 0, 16, .inl (fun _ => -5)))]) (rd_Q (fun r => (r = (-2) ∧ ((0 ≤ p0.toInt ∧ p0.toInt ≤ 15) ∧ (0 ≤ p1.toInt ∧ p2.toInt ≤ 399 ∧ p1.toInt < p2.toInt ∧ p2.toInt - p1.toInt ≤ 60))) ∨ (r = (-1) ∧ ¬ ((0 ≤ p0.toInt ∧ p0.toInt ≤ 15) ∧ (0 ≤ p1.toInt ∧ p2.toInt ≤ 399 ∧ p1.toInt < p2.toInt ∧ p2.toInt - p1.toInt ≤ 60))))) 0 0 (fun _ => False) := by
  refine Met.ofW (cc := cX8_refusalOfStretch) (maxL := 4) (ret := (some .int)) (by decide) rfl ?_
  intro p e s m args below meth c s₁ B hml hv
  obtain ⟨rfl, hP, hK⟩ := hv
  have hx := B.exec
  have hb := B.bytes
  have hr := B.returns
  have hts := atoms_spec (ws := wl yX8_refusalOfStretch cX8_refusalOfStretch 4 (some .int)) B.pre
  have htb : ∀ w ∈ tb, w.before _ s = true := fun w h => hts w (List.mem_cons_of_mem _ h)
  have hown : s.vm.findClass RX8 = some m.cls := findClass_of_methodNamed B.named
  have hlocks := B.notSynchronized
  have hP : va_P D vwCl [(h0, .inr (8, xF a 0)), ((a 1), .inl (E 0, 16, .inl (fun _ => -5)))] s.heap := hP
  have hl := lv_entry ([.ref h0, .int p0, .int p1, .int p2]) (n := 4) (Nat.le_of_ble_eq_true rfl)
  rw [lg_entry_eq]
  generalize (lg_sl ([.ref h0, .int p0, .int p1, .int p2]) ++ List.replicate (4 - (lg_sl ([.ref h0, .int p0, .int p1, .int p2])).length) Slot.unset).toArray = ls at hl ⊢
  have hl : lv_has ls 4 [(0, .ref h0), (1, .int p0), (2, .int p1), (3, .int p2)] := hl
  have lo_p0 := i_lo p0
  have hi_p0 := i_hi p0
  have lo_p1 := i_lo p1
  have hi_p1 := i_hi p1
  have lo_p2 := i_lo p2
  have hi_p2 := i_hi p2
  refine lv_iload_n hx hb dX8_refusalOfStretch_0 rfl (lv_at hl 1 rfl) ?_
  refine callRS (rest := []) (As := [.int p0]) hx hb hml hown htb hK (c_X8_isPlace l D E p0 ) ok_X8_isPlace k_333 k_334 k_1 k_335 ⟨(Nat.le_of_ble_eq_true rfl), (Nat.le_of_ble_eq_true rfl)⟩ ⟨(Nat.le_of_ble_eq_true rfl), (Nat.le_of_ble_eq_true rfl)⟩ hl.1 (Nat.le_of_ble_eq_true rfl) rfl rfl dX8_refusalOfStretch_1 (hP.sub (ws' := ([] : va_W)) [] rfl) (fun r_2 hw_1 => ?_)
  rcases hw_1 with ⟨hr_2, hw_1⟩ | ⟨hr_2, hw_1⟩
  ·
    refine W_top (y := .int 1) (by rw [hr_2]) ?_
    refine lv_if_eq (tgt := 15) hx hb dX8_refusalOfStretch_4 (by decide) (fun c_3 => absurd c_3 (by decide)) (fun c_3 => ?_)
    refine lv_iload_n hx hb dX8_refusalOfStretch_7 rfl (lv_at hl 2 rfl) ?_
    refine lv_iload_n hx hb dX8_refusalOfStretch_8 rfl (lv_at hl 3 rfl) ?_
    refine callRS (rest := []) (As := [.int p1, .int p2]) hx hb hml hown htb hK (c_X8_isStretch l D E p1 p2 ) ok_X8_isStretch k_479 k_480 k_1 k_481 ⟨(Nat.le_of_ble_eq_true rfl), (Nat.le_of_ble_eq_true rfl)⟩ ⟨(Nat.le_of_ble_eq_true rfl), (Nat.le_of_ble_eq_true rfl)⟩ hl.1 (Nat.le_of_ble_eq_true rfl) rfl rfl dX8_refusalOfStretch_9 (hP.sub (ws' := ([] : va_W)) [] rfl) (fun r_5 hw_4 => ?_)
    rcases hw_4 with ⟨hr_5, hw_4⟩ | ⟨hr_5, hw_4⟩
    ·
      refine W_top (y := .int 1) (by rw [hr_5]) ?_
      refine lv_if_ne (tgt := 17) hx hb dX8_refusalOfStretch_12 (by decide) (fun c_6 => ?_) (fun c_6 => absurd c_6 (by decide))
      refine lv_aload_n hx hb dX8_refusalOfStretch_17 rfl (lv_at hl 0 rfl) ?_
      refine lv_iload_n hx hb dX8_refusalOfStretch_18 rfl (lv_at hl 1 rfl) ?_
      refine callNV (rest := []) (As := [.int p0]) hx hb hml hown htb hK (c_X8_watchAt l D E h0 a p0 ) ok_X8_watchAt k_369 k_371 ks_1 k_1 k_372 ⟨(Nat.le_of_ble_eq_true rfl), (Nat.le_of_ble_eq_true rfl)⟩ ⟨(Nat.le_of_ble_eq_true rfl), (Nat.le_of_ble_eq_true rfl)⟩ hl.1 (Nat.le_of_ble_eq_true rfl) rfl rfl dX8_refusalOfStretch_19 (hP.sub (ws' := [(h0, .inr (8, xF a 0)), ((a 1), .inl (E 0, 16, .inl (fun _ => -5)))]) [0, 1] rfl) rfl rfl 0 rfl ?_
      refine lv_ifnonnullN hx hb dX8_refusalOfStretch_22 ?_
      refine lv_aload_n hx hb dX8_refusalOfStretch_25 rfl (lv_at hl 0 rfl) ?_
      refine lv_iload_n hx hb dX8_refusalOfStretch_26 rfl (lv_at hl 1 rfl) ?_
      refine callRV (rest := []) (As := [.int p0]) hx hb hml hown htb hK (c_X8_lackAt l D E h0 a p0 ) ok_X8_lackAt k_396 k_398 ks_3 k_1 k_399 ⟨(Nat.le_of_ble_eq_true rfl), (Nat.le_of_ble_eq_true rfl)⟩ ⟨(Nat.le_of_ble_eq_true rfl), (Nat.le_of_ble_eq_true rfl)⟩ hl.1 (Nat.le_of_ble_eq_true rfl) rfl rfl dX8_refusalOfStretch_27 (hP.sub (ws' := [(h0, .inr (8, xF a 0)), ((a 1), .inl (E 0, 16, .inl (fun _ => -5)))]) [0, 1] rfl) rfl rfl 0 rfl (fun r_9 hw_8 => ?_)
      rcases hw_8 with ⟨hr_9, hw_8⟩ | ⟨hr_9, hw_8⟩
      ·
        refine W_top (y := .int (-2)) (by rw [hr_9]) ?_
        refine lv_goto (tgt := 34) hx hb dX8_refusalOfStretch_30 (by decide) ?_
        exact W.iret (v := (-2)) hx hb hr (fun t ht hW => ⟨(-2), rfl, by first | exact Or.inl ⟨rfl, by omega⟩ | (exfalso; omega), ht⟩) (fun q h => by cases h) dX8_refusalOfStretch_34
      ·
        refine W_top (y := .int (-1)) (by rw [hr_9]) ?_
        refine lv_goto (tgt := 34) hx hb dX8_refusalOfStretch_30 (by decide) ?_
        exact W.iret (v := (-1)) hx hb hr (fun t ht hW => ⟨(-1), rfl, by first | exact Or.inr ⟨rfl, by omega⟩ | (exfalso; omega), ht⟩) (fun q h => by cases h) dX8_refusalOfStretch_34
    ·
      refine W_top (y := .int 0) (by rw [hr_5]) ?_
      refine lv_if_ne (tgt := 17) hx hb dX8_refusalOfStretch_12 (by decide) (fun c_10 => absurd (by decide) c_10) (fun c_10 => ?_)
      refine lv_iconst (v := (-1)) hx hb dX8_refusalOfStretch_15 (by decide) ?_
      exact W.iret (v := (-1)) hx hb hr (fun t ht hW => ⟨(-1), rfl, by first | exact Or.inr ⟨rfl, by omega⟩ | (exfalso; omega), ht⟩) (fun q h => by cases h) dX8_refusalOfStretch_16
  ·
    refine W_top (y := .int 0) (by rw [hr_2]) ?_
    refine lv_if_eq (tgt := 15) hx hb dX8_refusalOfStretch_4 (by decide) (fun c_11 => ?_) (fun c_11 => absurd (by decide) c_11)
    refine lv_iconst (v := (-1)) hx hb dX8_refusalOfStretch_15 (by decide) ?_
    exact W.iret (v := (-1)) hx hb hr (fun t ht hW => ⟨(-1), rfl, by first | exact Or.inr ⟨rfl, by omega⟩ | (exfalso; omega), ht⟩) (fun q h => by cases h) dX8_refusalOfStretch_16
set_option maxHeartbeats 4000000 in
set_option maxRecDepth 100000 in
theorem c_X8_markOn (l : Launch) (D : va_G) (E : Nat → Nat) (h0 : Nat) (a : Nat → Nat) (p0 : Int32) (p1 : Int32) (p2 : Int32)  : Met l yX8_markOn (wl yX8_markOn cX8_markOn 5 (some .int)) (RM 2 0 0) (rd_P D E [.ref h0, .int p0, .int p1, .int p2] [(h0, .inr (8, xF a 0)), ((a 1), .inl (E 0, 16, .inl (fun _ => -5)))]) (rd_Q (fun r => (r = (-2) ∧ ((0 ≤ p0.toInt ∧ p0.toInt ≤ 15) ∧ (0 ≤ p1.toInt ∧ p1.toInt ≤ 0))) ∨ (r = (-1) ∧ ¬ ((0 ≤ p0.toInt ∧ p0.toInt ≤ 15) ∧ (0 ≤ p1.toInt ∧ p1.toInt ≤ 0))))) 0 0 (fun _ => False) := by
  refine Met.ofW (cc := cX8_markOn) (maxL := 5) (ret := (some .int)) (by decide) rfl ?_
  intro p e s m args below meth c s₁ B hml hv
  obtain ⟨rfl, hP, hK⟩ := hv
  have hx := B.exec
  have hb := B.bytes
  have hr := B.returns
  have hts := atoms_spec (ws := wl yX8_markOn cX8_markOn 5 (some .int)) B.pre
  have htb : ∀ w ∈ tb, w.before _ s = true := fun w h => hts w (List.mem_cons_of_mem _ h)
  have hown : s.vm.findClass RX8 = some m.cls := findClass_of_methodNamed B.named
  have hlocks := B.notSynchronized
  have hP : va_P D vwCl [(h0, .inr (8, xF a 0)), ((a 1), .inl (E 0, 16, .inl (fun _ => -5)))] s.heap := hP
  have hl := lv_entry ([.ref h0, .int p0, .int p1, .int p2]) (n := 5) (Nat.le_of_ble_eq_true rfl)
  rw [lg_entry_eq]
  generalize (lg_sl ([.ref h0, .int p0, .int p1, .int p2]) ++ List.replicate (5 - (lg_sl ([.ref h0, .int p0, .int p1, .int p2])).length) Slot.unset).toArray = ls at hl ⊢
  have hl : lv_has ls 5 [(0, .ref h0), (1, .int p0), (2, .int p1), (3, .int p2)] := hl
  have lo_p0 := i_lo p0
  have hi_p0 := i_hi p0
  have lo_p1 := i_lo p1
  have hi_p1 := i_hi p1
  have lo_p2 := i_lo p2
  have hi_p2 := i_hi p2
  refine lv_iload_n hx hb dX8_markOn_0 rfl (lv_at hl 1 rfl) ?_
  refine callRS (rest := []) (As := [.int p0]) hx hb hml hown htb hK (c_X8_isPlace l D E p0 ) ok_X8_isPlace k_333 k_334 k_1 k_335 ⟨(Nat.le_of_ble_eq_true rfl), (Nat.le_of_ble_eq_true rfl)⟩ ⟨(Nat.le_of_ble_eq_true rfl), (Nat.le_of_ble_eq_true rfl)⟩ hl.1 (Nat.le_of_ble_eq_true rfl) rfl rfl dX8_markOn_1 (hP.sub (ws' := ([] : va_W)) [] rfl) (fun r_2 hw_1 => ?_)
  rcases hw_1 with ⟨hr_2, hw_1⟩ | ⟨hr_2, hw_1⟩
  ·
    refine W_top (y := .int 1) (by rw [hr_2]) ?_
    refine lv_if_eq (tgt := 15) hx hb dX8_markOn_4 (by decide) (fun c_3 => absurd c_3 (by decide)) (fun c_3 => ?_)
    refine lv_aload_n hx hb dX8_markOn_7 rfl (lv_at hl 0 rfl) ?_
    refine lv_iload_n hx hb dX8_markOn_8 rfl (lv_at hl 2 rfl) ?_
    refine callRV (rest := []) (As := [.int p1]) hx hb hml hown htb hK (c_X8_isPast l D E h0 a p1 ) ok_X8_isPast k_391 k_393 ks_2 k_1 k_394 ⟨(Nat.le_of_ble_eq_true rfl), (Nat.le_of_ble_eq_true rfl)⟩ ⟨(Nat.le_of_ble_eq_true rfl), (Nat.le_of_ble_eq_true rfl)⟩ hl.1 (Nat.le_of_ble_eq_true rfl) rfl rfl dX8_markOn_9 (hP.sub (ws' := [(h0, .inr (8, xF a 0))]) [0] rfl) rfl rfl 0 rfl (fun r_5 hw_4 => ?_)
    rcases hw_4 with ⟨hr_5, hw_4⟩ | ⟨hr_5, hw_4⟩
    ·
      refine W_top (y := .int 1) (by rw [hr_5]) ?_
      refine lv_if_ne (tgt := 17) hx hb dX8_markOn_12 (by decide) (fun c_6 => ?_) (fun c_6 => absurd c_6 (by decide))
      refine lv_aload_n hx hb dX8_markOn_17 rfl (lv_at hl 0 rfl) ?_
      refine lv_iload_n hx hb dX8_markOn_18 rfl (lv_at hl 1 rfl) ?_
      refine callNV (rest := []) (As := [.int p0]) hx hb hml hown htb hK (c_X8_watchAt l D E h0 a p0 ) ok_X8_watchAt k_369 k_371 ks_1 k_1 k_372 ⟨(Nat.le_of_ble_eq_true rfl), (Nat.le_of_ble_eq_true rfl)⟩ ⟨(Nat.le_of_ble_eq_true rfl), (Nat.le_of_ble_eq_true rfl)⟩ hl.1 (Nat.le_of_ble_eq_true rfl) rfl rfl dX8_markOn_19 (hP.sub (ws' := [(h0, .inr (8, xF a 0)), ((a 1), .inl (E 0, 16, .inl (fun _ => -5)))]) [0, 1] rfl) rfl rfl 0 rfl ?_
      refine lv_astoreN (lv' := [(4, .null), (0, .ref h0), (1, .int p0), (2, .int p1), (3, .int p2)]) hx hb dX8_markOn_22 hl (by decide) rfl (fun ls hl => ?_)
      refine lv_aloadN hx hb dX8_markOn_24 (lv_at hl 0 rfl) ?_
      refine lv_ifnonnullN hx hb dX8_markOn_26 ?_
      refine lv_aload_n hx hb dX8_markOn_29 rfl (lv_at hl 1 rfl) ?_
      refine lv_iload_n hx hb dX8_markOn_30 rfl (lv_at hl 2 rfl) ?_
      refine callRV (rest := []) (As := [.int p0]) hx hb hml hown htb hK (c_X8_lackAt l D E h0 a p0 ) ok_X8_lackAt k_396 k_398 ks_3 k_1 k_399 ⟨(Nat.le_of_ble_eq_true rfl), (Nat.le_of_ble_eq_true rfl)⟩ ⟨(Nat.le_of_ble_eq_true rfl), (Nat.le_of_ble_eq_true rfl)⟩ hl.1 (Nat.le_of_ble_eq_true rfl) rfl rfl dX8_markOn_31 (hP.sub (ws' := [(h0, .inr (8, xF a 0)), ((a 1), .inl (E 0, 16, .inl (fun _ => -5)))]) [0, 1] rfl) rfl rfl 0 rfl (fun r_9 hw_8 => ?_)
      rcases hw_8 with ⟨hr_9, hw_8⟩ | ⟨hr_9, hw_8⟩
      ·
        refine W_top (y := .int (-2)) (by rw [hr_9]) ?_
        exact W.iret (v := (-2)) hx hb hr (fun t ht hW => ⟨(-2), rfl, by first | exact Or.inl ⟨rfl, by omega⟩ | (exfalso; omega), ht⟩) (fun q h => by cases h) dX8_markOn_34
      ·
        refine W_top (y := .int (-1)) (by rw [hr_9]) ?_
        exact W.iret (v := (-1)) hx hb hr (fun t ht hW => ⟨(-1), rfl, by first | exact Or.inr ⟨rfl, by omega⟩ | (exfalso; omega), ht⟩) (fun q h => by cases h) dX8_markOn_34
    ·
      refine W_top (y := .int 0) (by rw [hr_5]) ?_
      refine lv_if_ne (tgt := 17) hx hb dX8_markOn_12 (by decide) (fun c_10 => absurd (by decide) c_10) (fun c_10 => ?_)
      refine lv_iconst (v := (-1)) hx hb dX8_markOn_15 (by decide) ?_
      exact W.iret (v := (-1)) hx hb hr (fun t ht hW => ⟨(-1), rfl, by first | exact Or.inr ⟨rfl, by omega⟩ | (exfalso; omega), ht⟩) (fun q h => by cases h) dX8_markOn_16
  ·
    refine W_top (y := .int 0) (by rw [hr_2]) ?_
    refine lv_if_eq (tgt := 15) hx hb dX8_markOn_4 (by decide) (fun c_11 => ?_) (fun c_11 => absurd (by decide) c_11)
    refine lv_iconst (v := (-1)) hx hb dX8_markOn_15 (by decide) ?_
    exact W.iret (v := (-1)) hx hb hr (fun t ht hW => ⟨(-1), rfl, by first | exact Or.inr ⟨rfl, by omega⟩ | (exfalso; omega), ht⟩) (fun q h => by cases h) dX8_markOn_16
set_option maxHeartbeats 4000000 in
set_option maxRecDepth 100000 in
theorem c_X8_placesWith (l : Launch) (D : va_G) (E : Nat → Nat) (h0 : Nat) (a : Nat → Nat) (p0 : Int32) (g0 : 0 ≤ p0.toInt ∧ p0.toInt ≤ 2) : Met l yX8_placesWith (wl yX8_placesWith cX8_placesWith 4 (some .int)) (RM 0 0 0) (rd_P D E [.ref h0, .int p0] [(h0, .inr (8, xF a 0)), ((a 1), .inl (E 0, 16, .inl (fun _ => -5)))]) (rd_Q (fun r => (r = 0 ∧ True))) 0 0 (fun _ => False) := by
  refine Met.ofW (cc := cX8_placesWith) (maxL := 4) (ret := (some .int)) (by decide) rfl ?_
  intro p e s m args below meth c s₁ B hml hv
  obtain ⟨rfl, hP, hK⟩ := hv
  have hx := B.exec
  have hb := B.bytes
  have hr := B.returns
  have hts := atoms_spec (ws := wl yX8_placesWith cX8_placesWith 4 (some .int)) B.pre
  have htb : ∀ w ∈ tb, w.before _ s = true := fun w h => hts w (List.mem_cons_of_mem _ h)
  have hown : s.vm.findClass RX8 = some m.cls := findClass_of_methodNamed B.named
  have hlocks := B.notSynchronized
  have hP : va_P D vwCl [(h0, .inr (8, xF a 0)), ((a 1), .inl (E 0, 16, .inl (fun _ => -5)))] s.heap := hP
  have hl := lv_entry ([.ref h0, .int p0]) (n := 4) (Nat.le_of_ble_eq_true rfl)
  rw [lg_entry_eq]
  generalize (lg_sl ([.ref h0, .int p0]) ++ List.replicate (4 - (lg_sl ([.ref h0, .int p0])).length) Slot.unset).toArray = ls at hl ⊢
  have hl : lv_has ls 4 [(0, .ref h0), (1, .int p0)] := hl
  have lo_p0 := i_lo p0
  have hi_p0 := i_hi p0
  refine lv_iconst (v := 0) hx hb dX8_placesWith_0 (by decide) ?_
  refine lv_istore_n (lv' := [(2, .int 0), (0, .ref h0), (1, .int p0)]) hx hb dX8_placesWith_1 rfl hl (by decide) rfl (fun ls hl => ?_)
  refine lv_iconst (v := 0) hx hb dX8_placesWith_2 (by decide) ?_
  refine lv_istore_n (lv' := [(3, .int 0), (2, .int 0), (0, .ref h0), (1, .int p0)]) hx hb dX8_placesWith_3 rfl hl (by decide) rfl (fun ls hl => ?_)
  refine lv_iload_n hx hb dX8_placesWith_4 rfl (lv_at hl 0 rfl) ?_
  refine lv_bipush (v := 16) hx hb dX8_placesWith_5 (by decide) ?_
  refine lv_icmp_ge (tgt := 29) hx hb dX8_placesWith_7 (by decide) (fun c_1 => absurd c_1 (by decide)) (fun c_1 => ?_)
  refine lv_aload_n hx hb dX8_placesWith_10 rfl (lv_at hl 2 rfl) ?_
  refine va_get (D := D) (ci := 8) (v := .ref (a 1)) (C := RX8) (T := TX8) (N := 14) hx hb htb iX8 hown hK.1 hP 0 rfl rfl 1 (by decide) (htb _ k_273) (fun _ h9 => h9) rfl dX8_placesWith_11 ?_
  refine lv_iload_n hx hb dX8_placesWith_14 rfl (lv_at hl 0 rfl) ?_
  refine va_iald hx hb hK.1 hP 1 0 rfl rfl (g_in t_0 (by decide) (by decide)) dX8_placesWith_15 ?_
  refine W_top (y := .int (-5)) rfl ?_
  refine lv_iload_n hx hb dX8_placesWith_16 rfl (lv_at hl 3 rfl) ?_
  refine lv_icmp_ne (tgt := 23) hx hb dX8_placesWith_17 (by decide) (fun c_2 => ?_) (fun c_2 => absurd c_2 (by rw [g_eq t_m5 rfl]; omega))
  refine lv_iinc (v := 1) (lv' := [(3, .int 1), (2, .int 0), (0, .ref h0), (1, .int p0)]) hx hb dX8_placesWith_23 hl (k := 0) rfl (by decide) (by decide) rfl (fun ls hl => ?_)
  refine lv_goto (tgt := 4) hx hb dX8_placesWith_26 (by decide) ?_
  refine lv_iload_n hx hb dX8_placesWith_4 rfl (lv_at hl 0 rfl) ?_
  refine lv_bipush (v := 16) hx hb dX8_placesWith_5 (by decide) ?_
  refine lv_icmp_ge (tgt := 29) hx hb dX8_placesWith_7 (by decide) (fun c_3 => absurd c_3 (by decide)) (fun c_3 => ?_)
  refine lv_aload_n hx hb dX8_placesWith_10 rfl (lv_at hl 2 rfl) ?_
  refine va_get (D := D) (ci := 8) (v := .ref (a 1)) (C := RX8) (T := TX8) (N := 14) hx hb htb iX8 hown hK.1 hP 0 rfl rfl 1 (by decide) (htb _ k_273) (fun _ h9 => h9) rfl dX8_placesWith_11 ?_
  refine lv_iload_n hx hb dX8_placesWith_14 rfl (lv_at hl 0 rfl) ?_
  refine va_iald hx hb hK.1 hP 1 0 rfl rfl (g_in t_1 (by decide) (by decide)) dX8_placesWith_15 ?_
  refine W_top (y := .int (-5)) rfl ?_
  refine lv_iload_n hx hb dX8_placesWith_16 rfl (lv_at hl 3 rfl) ?_
  refine lv_icmp_ne (tgt := 23) hx hb dX8_placesWith_17 (by decide) (fun c_4 => ?_) (fun c_4 => absurd c_4 (by rw [g_eq t_m5 rfl]; omega))
  refine lv_iinc (v := 2) (lv' := [(3, .int 2), (2, .int 0), (0, .ref h0), (1, .int p0)]) hx hb dX8_placesWith_23 hl (k := 0) rfl (by decide) (by decide) rfl (fun ls hl => ?_)
  refine lv_goto (tgt := 4) hx hb dX8_placesWith_26 (by decide) ?_
  refine lv_iload_n hx hb dX8_placesWith_4 rfl (lv_at hl 0 rfl) ?_
  refine lv_bipush (v := 16) hx hb dX8_placesWith_5 (by decide) ?_
  refine lv_icmp_ge (tgt := 29) hx hb dX8_placesWith_7 (by decide) (fun c_5 => absurd c_5 (by decide)) (fun c_5 => ?_)
  refine lv_aload_n hx hb dX8_placesWith_10 rfl (lv_at hl 2 rfl) ?_
  refine va_get (D := D) (ci := 8) (v := .ref (a 1)) (C := RX8) (T := TX8) (N := 14) hx hb htb iX8 hown hK.1 hP 0 rfl rfl 1 (by decide) (htb _ k_273) (fun _ h9 => h9) rfl dX8_placesWith_11 ?_
  refine lv_iload_n hx hb dX8_placesWith_14 rfl (lv_at hl 0 rfl) ?_
  refine va_iald hx hb hK.1 hP 1 0 rfl rfl (g_in t_2 (by decide) (by decide)) dX8_placesWith_15 ?_
  refine W_top (y := .int (-5)) rfl ?_
  refine lv_iload_n hx hb dX8_placesWith_16 rfl (lv_at hl 3 rfl) ?_
  refine lv_icmp_ne (tgt := 23) hx hb dX8_placesWith_17 (by decide) (fun c_6 => ?_) (fun c_6 => absurd c_6 (by rw [g_eq t_m5 rfl]; omega))
  refine lv_iinc (v := 3) (lv' := [(3, .int 3), (2, .int 0), (0, .ref h0), (1, .int p0)]) hx hb dX8_placesWith_23 hl (k := 0) rfl (by decide) (by decide) rfl (fun ls hl => ?_)
  refine lv_goto (tgt := 4) hx hb dX8_placesWith_26 (by decide) ?_
  refine lv_iload_n hx hb dX8_placesWith_4 rfl (lv_at hl 0 rfl) ?_
  refine lv_bipush (v := 16) hx hb dX8_placesWith_5 (by decide) ?_
  refine lv_icmp_ge (tgt := 29) hx hb dX8_placesWith_7 (by decide) (fun c_7 => absurd c_7 (by decide)) (fun c_7 => ?_)
  refine lv_aload_n hx hb dX8_placesWith_10 rfl (lv_at hl 2 rfl) ?_
  refine va_get (D := D) (ci := 8) (v := .ref (a 1)) (C := RX8) (T := TX8) (N := 14) hx hb htb iX8 hown hK.1 hP 0 rfl rfl 1 (by decide) (htb _ k_273) (fun _ h9 => h9) rfl dX8_placesWith_11 ?_
  refine lv_iload_n hx hb dX8_placesWith_14 rfl (lv_at hl 0 rfl) ?_
  refine va_iald hx hb hK.1 hP 1 0 rfl rfl (g_in t_3 (by decide) (by decide)) dX8_placesWith_15 ?_
  refine W_top (y := .int (-5)) rfl ?_
  refine lv_iload_n hx hb dX8_placesWith_16 rfl (lv_at hl 3 rfl) ?_
  refine lv_icmp_ne (tgt := 23) hx hb dX8_placesWith_17 (by decide) (fun c_8 => ?_) (fun c_8 => absurd c_8 (by rw [g_eq t_m5 rfl]; omega))
  refine lv_iinc (v := 4) (lv' := [(3, .int 4), (2, .int 0), (0, .ref h0), (1, .int p0)]) hx hb dX8_placesWith_23 hl (k := 0) rfl (by decide) (by decide) rfl (fun ls hl => ?_)
  refine lv_goto (tgt := 4) hx hb dX8_placesWith_26 (by decide) ?_
  refine lv_iload_n hx hb dX8_placesWith_4 rfl (lv_at hl 0 rfl) ?_
  refine lv_bipush (v := 16) hx hb dX8_placesWith_5 (by decide) ?_
  refine lv_icmp_ge (tgt := 29) hx hb dX8_placesWith_7 (by decide) (fun c_9 => absurd c_9 (by decide)) (fun c_9 => ?_)
  refine lv_aload_n hx hb dX8_placesWith_10 rfl (lv_at hl 2 rfl) ?_
  refine va_get (D := D) (ci := 8) (v := .ref (a 1)) (C := RX8) (T := TX8) (N := 14) hx hb htb iX8 hown hK.1 hP 0 rfl rfl 1 (by decide) (htb _ k_273) (fun _ h9 => h9) rfl dX8_placesWith_11 ?_
  refine lv_iload_n hx hb dX8_placesWith_14 rfl (lv_at hl 0 rfl) ?_
  refine va_iald hx hb hK.1 hP 1 0 rfl rfl (g_in t_4 (by decide) (by decide)) dX8_placesWith_15 ?_
  refine W_top (y := .int (-5)) rfl ?_
  refine lv_iload_n hx hb dX8_placesWith_16 rfl (lv_at hl 3 rfl) ?_
  refine lv_icmp_ne (tgt := 23) hx hb dX8_placesWith_17 (by decide) (fun c_10 => ?_) (fun c_10 => absurd c_10 (by rw [g_eq t_m5 rfl]; omega))
  refine lv_iinc (v := 5) (lv' := [(3, .int 5), (2, .int 0), (0, .ref h0), (1, .int p0)]) hx hb dX8_placesWith_23 hl (k := 0) rfl (by decide) (by decide) rfl (fun ls hl => ?_)
  refine lv_goto (tgt := 4) hx hb dX8_placesWith_26 (by decide) ?_
  refine lv_iload_n hx hb dX8_placesWith_4 rfl (lv_at hl 0 rfl) ?_
  refine lv_bipush (v := 16) hx hb dX8_placesWith_5 (by decide) ?_
  refine lv_icmp_ge (tgt := 29) hx hb dX8_placesWith_7 (by decide) (fun c_11 => absurd c_11 (by decide)) (fun c_11 => ?_)
  refine lv_aload_n hx hb dX8_placesWith_10 rfl (lv_at hl 2 rfl) ?_
  refine va_get (D := D) (ci := 8) (v := .ref (a 1)) (C := RX8) (T := TX8) (N := 14) hx hb htb iX8 hown hK.1 hP 0 rfl rfl 1 (by decide) (htb _ k_273) (fun _ h9 => h9) rfl dX8_placesWith_11 ?_
  refine lv_iload_n hx hb dX8_placesWith_14 rfl (lv_at hl 0 rfl) ?_
  refine va_iald hx hb hK.1 hP 1 0 rfl rfl (g_in t_5 (by decide) (by decide)) dX8_placesWith_15 ?_
  refine W_top (y := .int (-5)) rfl ?_
  refine lv_iload_n hx hb dX8_placesWith_16 rfl (lv_at hl 3 rfl) ?_
  refine lv_icmp_ne (tgt := 23) hx hb dX8_placesWith_17 (by decide) (fun c_12 => ?_) (fun c_12 => absurd c_12 (by rw [g_eq t_m5 rfl]; omega))
  refine lv_iinc (v := 6) (lv' := [(3, .int 6), (2, .int 0), (0, .ref h0), (1, .int p0)]) hx hb dX8_placesWith_23 hl (k := 0) rfl (by decide) (by decide) rfl (fun ls hl => ?_)
  refine lv_goto (tgt := 4) hx hb dX8_placesWith_26 (by decide) ?_
  refine lv_iload_n hx hb dX8_placesWith_4 rfl (lv_at hl 0 rfl) ?_
  refine lv_bipush (v := 16) hx hb dX8_placesWith_5 (by decide) ?_
  refine lv_icmp_ge (tgt := 29) hx hb dX8_placesWith_7 (by decide) (fun c_13 => absurd c_13 (by decide)) (fun c_13 => ?_)
  refine lv_aload_n hx hb dX8_placesWith_10 rfl (lv_at hl 2 rfl) ?_
  refine va_get (D := D) (ci := 8) (v := .ref (a 1)) (C := RX8) (T := TX8) (N := 14) hx hb htb iX8 hown hK.1 hP 0 rfl rfl 1 (by decide) (htb _ k_273) (fun _ h9 => h9) rfl dX8_placesWith_11 ?_
  refine lv_iload_n hx hb dX8_placesWith_14 rfl (lv_at hl 0 rfl) ?_
  refine va_iald hx hb hK.1 hP 1 0 rfl rfl (g_in t_6 (by decide) (by decide)) dX8_placesWith_15 ?_
  refine W_top (y := .int (-5)) rfl ?_
  refine lv_iload_n hx hb dX8_placesWith_16 rfl (lv_at hl 3 rfl) ?_
  refine lv_icmp_ne (tgt := 23) hx hb dX8_placesWith_17 (by decide) (fun c_14 => ?_) (fun c_14 => absurd c_14 (by rw [g_eq t_m5 rfl]; omega))
  refine lv_iinc (v := 7) (lv' := [(3, .int 7), (2, .int 0), (0, .ref h0), (1, .int p0)]) hx hb dX8_placesWith_23 hl (k := 0) rfl (by decide) (by decide) rfl (fun ls hl => ?_)
  refine lv_goto (tgt := 4) hx hb dX8_placesWith_26 (by decide) ?_
  refine lv_iload_n hx hb dX8_placesWith_4 rfl (lv_at hl 0 rfl) ?_
  refine lv_bipush (v := 16) hx hb dX8_placesWith_5 (by decide) ?_
  refine lv_icmp_ge (tgt := 29) hx hb dX8_placesWith_7 (by decide) (fun c_15 => absurd c_15 (by decide)) (fun c_15 => ?_)
  refine lv_aload_n hx hb dX8_placesWith_10 rfl (lv_at hl 2 rfl) ?_
  refine va_get (D := D) (ci := 8) (v := .ref (a 1)) (C := RX8) (T := TX8) (N := 14) hx hb htb iX8 hown hK.1 hP 0 rfl rfl 1 (by decide) (htb _ k_273) (fun _ h9 => h9) rfl dX8_placesWith_11 ?_
  refine lv_iload_n hx hb dX8_placesWith_14 rfl (lv_at hl 0 rfl) ?_
  refine va_iald hx hb hK.1 hP 1 0 rfl rfl (g_in t_7 (by decide) (by decide)) dX8_placesWith_15 ?_
  refine W_top (y := .int (-5)) rfl ?_
  refine lv_iload_n hx hb dX8_placesWith_16 rfl (lv_at hl 3 rfl) ?_
  refine lv_icmp_ne (tgt := 23) hx hb dX8_placesWith_17 (by decide) (fun c_16 => ?_) (fun c_16 => absurd c_16 (by rw [g_eq t_m5 rfl]; omega))
  refine lv_iinc (v := 8) (lv' := [(3, .int 8), (2, .int 0), (0, .ref h0), (1, .int p0)]) hx hb dX8_placesWith_23 hl (k := 0) rfl (by decide) (by decide) rfl (fun ls hl => ?_)
  refine lv_goto (tgt := 4) hx hb dX8_placesWith_26 (by decide) ?_
  refine lv_iload_n hx hb dX8_placesWith_4 rfl (lv_at hl 0 rfl) ?_
  refine lv_bipush (v := 16) hx hb dX8_placesWith_5 (by decide) ?_
  refine lv_icmp_ge (tgt := 29) hx hb dX8_placesWith_7 (by decide) (fun c_17 => absurd c_17 (by decide)) (fun c_17 => ?_)
  refine lv_aload_n hx hb dX8_placesWith_10 rfl (lv_at hl 2 rfl) ?_
  refine va_get (D := D) (ci := 8) (v := .ref (a 1)) (C := RX8) (T := TX8) (N := 14) hx hb htb iX8 hown hK.1 hP 0 rfl rfl 1 (by decide) (htb _ k_273) (fun _ h9 => h9) rfl dX8_placesWith_11 ?_
  refine lv_iload_n hx hb dX8_placesWith_14 rfl (lv_at hl 0 rfl) ?_
  refine va_iald hx hb hK.1 hP 1 0 rfl rfl (g_in t_8 (by decide) (by decide)) dX8_placesWith_15 ?_
  refine W_top (y := .int (-5)) rfl ?_
  refine lv_iload_n hx hb dX8_placesWith_16 rfl (lv_at hl 3 rfl) ?_
  refine lv_icmp_ne (tgt := 23) hx hb dX8_placesWith_17 (by decide) (fun c_18 => ?_) (fun c_18 => absurd c_18 (by rw [g_eq t_m5 rfl]; omega))
  refine lv_iinc (v := 9) (lv' := [(3, .int 9), (2, .int 0), (0, .ref h0), (1, .int p0)]) hx hb dX8_placesWith_23 hl (k := 0) rfl (by decide) (by decide) rfl (fun ls hl => ?_)
  refine lv_goto (tgt := 4) hx hb dX8_placesWith_26 (by decide) ?_
  refine lv_iload_n hx hb dX8_placesWith_4 rfl (lv_at hl 0 rfl) ?_
  refine lv_bipush (v := 16) hx hb dX8_placesWith_5 (by decide) ?_
  refine lv_icmp_ge (tgt := 29) hx hb dX8_placesWith_7 (by decide) (fun c_19 => absurd c_19 (by decide)) (fun c_19 => ?_)
  refine lv_aload_n hx hb dX8_placesWith_10 rfl (lv_at hl 2 rfl) ?_
  refine va_get (D := D) (ci := 8) (v := .ref (a 1)) (C := RX8) (T := TX8) (N := 14) hx hb htb iX8 hown hK.1 hP 0 rfl rfl 1 (by decide) (htb _ k_273) (fun _ h9 => h9) rfl dX8_placesWith_11 ?_
  refine lv_iload_n hx hb dX8_placesWith_14 rfl (lv_at hl 0 rfl) ?_
  refine va_iald hx hb hK.1 hP 1 0 rfl rfl (g_in t_9 (by decide) (by decide)) dX8_placesWith_15 ?_
  refine W_top (y := .int (-5)) rfl ?_
  refine lv_iload_n hx hb dX8_placesWith_16 rfl (lv_at hl 3 rfl) ?_
  refine lv_icmp_ne (tgt := 23) hx hb dX8_placesWith_17 (by decide) (fun c_20 => ?_) (fun c_20 => absurd c_20 (by rw [g_eq t_m5 rfl]; omega))
  refine lv_iinc (v := 10) (lv' := [(3, .int 10), (2, .int 0), (0, .ref h0), (1, .int p0)]) hx hb dX8_placesWith_23 hl (k := 0) rfl (by decide) (by decide) rfl (fun ls hl => ?_)
  refine lv_goto (tgt := 4) hx hb dX8_placesWith_26 (by decide) ?_
  refine lv_iload_n hx hb dX8_placesWith_4 rfl (lv_at hl 0 rfl) ?_
  refine lv_bipush (v := 16) hx hb dX8_placesWith_5 (by decide) ?_
  refine lv_icmp_ge (tgt := 29) hx hb dX8_placesWith_7 (by decide) (fun c_21 => absurd c_21 (by decide)) (fun c_21 => ?_)
  refine lv_aload_n hx hb dX8_placesWith_10 rfl (lv_at hl 2 rfl) ?_
  refine va_get (D := D) (ci := 8) (v := .ref (a 1)) (C := RX8) (T := TX8) (N := 14) hx hb htb iX8 hown hK.1 hP 0 rfl rfl 1 (by decide) (htb _ k_273) (fun _ h9 => h9) rfl dX8_placesWith_11 ?_
  refine lv_iload_n hx hb dX8_placesWith_14 rfl (lv_at hl 0 rfl) ?_
  refine va_iald hx hb hK.1 hP 1 0 rfl rfl (g_in t_10 (by decide) (by decide)) dX8_placesWith_15 ?_
  refine W_top (y := .int (-5)) rfl ?_
  refine lv_iload_n hx hb dX8_placesWith_16 rfl (lv_at hl 3 rfl) ?_
  refine lv_icmp_ne (tgt := 23) hx hb dX8_placesWith_17 (by decide) (fun c_22 => ?_) (fun c_22 => absurd c_22 (by rw [g_eq t_m5 rfl]; omega))
  refine lv_iinc (v := 11) (lv' := [(3, .int 11), (2, .int 0), (0, .ref h0), (1, .int p0)]) hx hb dX8_placesWith_23 hl (k := 0) rfl (by decide) (by decide) rfl (fun ls hl => ?_)
  refine lv_goto (tgt := 4) hx hb dX8_placesWith_26 (by decide) ?_
  refine lv_iload_n hx hb dX8_placesWith_4 rfl (lv_at hl 0 rfl) ?_
  refine lv_bipush (v := 16) hx hb dX8_placesWith_5 (by decide) ?_
  refine lv_icmp_ge (tgt := 29) hx hb dX8_placesWith_7 (by decide) (fun c_23 => absurd c_23 (by decide)) (fun c_23 => ?_)
  refine lv_aload_n hx hb dX8_placesWith_10 rfl (lv_at hl 2 rfl) ?_
  refine va_get (D := D) (ci := 8) (v := .ref (a 1)) (C := RX8) (T := TX8) (N := 14) hx hb htb iX8 hown hK.1 hP 0 rfl rfl 1 (by decide) (htb _ k_273) (fun _ h9 => h9) rfl dX8_placesWith_11 ?_
  refine lv_iload_n hx hb dX8_placesWith_14 rfl (lv_at hl 0 rfl) ?_
  refine va_iald hx hb hK.1 hP 1 0 rfl rfl (g_in t_11 (by decide) (by decide)) dX8_placesWith_15 ?_
  refine W_top (y := .int (-5)) rfl ?_
  refine lv_iload_n hx hb dX8_placesWith_16 rfl (lv_at hl 3 rfl) ?_
  refine lv_icmp_ne (tgt := 23) hx hb dX8_placesWith_17 (by decide) (fun c_24 => ?_) (fun c_24 => absurd c_24 (by rw [g_eq t_m5 rfl]; omega))
  refine lv_iinc (v := 12) (lv' := [(3, .int 12), (2, .int 0), (0, .ref h0), (1, .int p0)]) hx hb dX8_placesWith_23 hl (k := 0) rfl (by decide) (by decide) rfl (fun ls hl => ?_)
  refine lv_goto (tgt := 4) hx hb dX8_placesWith_26 (by decide) ?_
  refine lv_iload_n hx hb dX8_placesWith_4 rfl (lv_at hl 0 rfl) ?_
  refine lv_bipush (v := 16) hx hb dX8_placesWith_5 (by decide) ?_
  refine lv_icmp_ge (tgt := 29) hx hb dX8_placesWith_7 (by decide) (fun c_25 => absurd c_25 (by decide)) (fun c_25 => ?_)
  refine lv_aload_n hx hb dX8_placesWith_10 rfl (lv_at hl 2 rfl) ?_
  refine va_get (D := D) (ci := 8) (v := .ref (a 1)) (C := RX8) (T := TX8) (N := 14) hx hb htb iX8 hown hK.1 hP 0 rfl rfl 1 (by decide) (htb _ k_273) (fun _ h9 => h9) rfl dX8_placesWith_11 ?_
  refine lv_iload_n hx hb dX8_placesWith_14 rfl (lv_at hl 0 rfl) ?_
  refine va_iald hx hb hK.1 hP 1 0 rfl rfl (g_in t_12 (by decide) (by decide)) dX8_placesWith_15 ?_
  refine W_top (y := .int (-5)) rfl ?_
  refine lv_iload_n hx hb dX8_placesWith_16 rfl (lv_at hl 3 rfl) ?_
  refine lv_icmp_ne (tgt := 23) hx hb dX8_placesWith_17 (by decide) (fun c_26 => ?_) (fun c_26 => absurd c_26 (by rw [g_eq t_m5 rfl]; omega))
  refine lv_iinc (v := 13) (lv' := [(3, .int 13), (2, .int 0), (0, .ref h0), (1, .int p0)]) hx hb dX8_placesWith_23 hl (k := 0) rfl (by decide) (by decide) rfl (fun ls hl => ?_)
  refine lv_goto (tgt := 4) hx hb dX8_placesWith_26 (by decide) ?_
  refine lv_iload_n hx hb dX8_placesWith_4 rfl (lv_at hl 0 rfl) ?_
  refine lv_bipush (v := 16) hx hb dX8_placesWith_5 (by decide) ?_
  refine lv_icmp_ge (tgt := 29) hx hb dX8_placesWith_7 (by decide) (fun c_27 => absurd c_27 (by decide)) (fun c_27 => ?_)
  refine lv_aload_n hx hb dX8_placesWith_10 rfl (lv_at hl 2 rfl) ?_
  refine va_get (D := D) (ci := 8) (v := .ref (a 1)) (C := RX8) (T := TX8) (N := 14) hx hb htb iX8 hown hK.1 hP 0 rfl rfl 1 (by decide) (htb _ k_273) (fun _ h9 => h9) rfl dX8_placesWith_11 ?_
  refine lv_iload_n hx hb dX8_placesWith_14 rfl (lv_at hl 0 rfl) ?_
  refine va_iald hx hb hK.1 hP 1 0 rfl rfl (g_in t_13 (by decide) (by decide)) dX8_placesWith_15 ?_
  refine W_top (y := .int (-5)) rfl ?_
  refine lv_iload_n hx hb dX8_placesWith_16 rfl (lv_at hl 3 rfl) ?_
  refine lv_icmp_ne (tgt := 23) hx hb dX8_placesWith_17 (by decide) (fun c_28 => ?_) (fun c_28 => absurd c_28 (by rw [g_eq t_m5 rfl]; omega))
  refine lv_iinc (v := 14) (lv' := [(3, .int 14), (2, .int 0), (0, .ref h0), (1, .int p0)]) hx hb dX8_placesWith_23 hl (k := 0) rfl (by decide) (by decide) rfl (fun ls hl => ?_)
  refine lv_goto (tgt := 4) hx hb dX8_placesWith_26 (by decide) ?_
  refine lv_iload_n hx hb dX8_placesWith_4 rfl (lv_at hl 0 rfl) ?_
  refine lv_bipush (v := 16) hx hb dX8_placesWith_5 (by decide) ?_
  refine lv_icmp_ge (tgt := 29) hx hb dX8_placesWith_7 (by decide) (fun c_29 => absurd c_29 (by decide)) (fun c_29 => ?_)
  refine lv_aload_n hx hb dX8_placesWith_10 rfl (lv_at hl 2 rfl) ?_
  refine va_get (D := D) (ci := 8) (v := .ref (a 1)) (C := RX8) (T := TX8) (N := 14) hx hb htb iX8 hown hK.1 hP 0 rfl rfl 1 (by decide) (htb _ k_273) (fun _ h9 => h9) rfl dX8_placesWith_11 ?_
  refine lv_iload_n hx hb dX8_placesWith_14 rfl (lv_at hl 0 rfl) ?_
  refine va_iald hx hb hK.1 hP 1 0 rfl rfl (g_in t_14 (by decide) (by decide)) dX8_placesWith_15 ?_
  refine W_top (y := .int (-5)) rfl ?_
  refine lv_iload_n hx hb dX8_placesWith_16 rfl (lv_at hl 3 rfl) ?_
  refine lv_icmp_ne (tgt := 23) hx hb dX8_placesWith_17 (by decide) (fun c_30 => ?_) (fun c_30 => absurd c_30 (by rw [g_eq t_m5 rfl]; omega))
  refine lv_iinc (v := 15) (lv' := [(3, .int 15), (2, .int 0), (0, .ref h0), (1, .int p0)]) hx hb dX8_placesWith_23 hl (k := 0) rfl (by decide) (by decide) rfl (fun ls hl => ?_)
  refine lv_goto (tgt := 4) hx hb dX8_placesWith_26 (by decide) ?_
  refine lv_iload_n hx hb dX8_placesWith_4 rfl (lv_at hl 0 rfl) ?_
  refine lv_bipush (v := 16) hx hb dX8_placesWith_5 (by decide) ?_
  refine lv_icmp_ge (tgt := 29) hx hb dX8_placesWith_7 (by decide) (fun c_31 => absurd c_31 (by decide)) (fun c_31 => ?_)
  refine lv_aload_n hx hb dX8_placesWith_10 rfl (lv_at hl 2 rfl) ?_
  refine va_get (D := D) (ci := 8) (v := .ref (a 1)) (C := RX8) (T := TX8) (N := 14) hx hb htb iX8 hown hK.1 hP 0 rfl rfl 1 (by decide) (htb _ k_273) (fun _ h9 => h9) rfl dX8_placesWith_11 ?_
  refine lv_iload_n hx hb dX8_placesWith_14 rfl (lv_at hl 0 rfl) ?_
  refine va_iald hx hb hK.1 hP 1 0 rfl rfl (g_in t_15 (by decide) (by decide)) dX8_placesWith_15 ?_
  refine W_top (y := .int (-5)) rfl ?_
  refine lv_iload_n hx hb dX8_placesWith_16 rfl (lv_at hl 3 rfl) ?_
  refine lv_icmp_ne (tgt := 23) hx hb dX8_placesWith_17 (by decide) (fun c_32 => ?_) (fun c_32 => absurd c_32 (by rw [g_eq t_m5 rfl]; omega))
  refine lv_iinc (v := 16) (lv' := [(3, .int 16), (2, .int 0), (0, .ref h0), (1, .int p0)]) hx hb dX8_placesWith_23 hl (k := 0) rfl (by decide) (by decide) rfl (fun ls hl => ?_)
  refine lv_goto (tgt := 4) hx hb dX8_placesWith_26 (by decide) ?_
  refine lv_iload_n hx hb dX8_placesWith_4 rfl (lv_at hl 0 rfl) ?_
  refine lv_bipush (v := 16) hx hb dX8_placesWith_5 (by decide) ?_
  refine lv_icmp_ge (tgt := 29) hx hb dX8_placesWith_7 (by decide) (fun c_33 => ?_) (fun c_33 => absurd (by decide) c_33)
  refine lv_iload_n hx hb dX8_placesWith_29 rfl (lv_at hl 1 rfl) ?_
  exact W.iret (v := 0) hx hb hr (fun t ht hW => ⟨0, rfl, ⟨rfl, trivial⟩, ht⟩) (fun q h => by cases h) dX8_placesWith_30
set_option maxHeartbeats 4000000 in
set_option maxRecDepth 100000 in
theorem c_X8_shipsAtSea (l : Launch) (D : va_G) (E : Nat → Nat) (h0 : Nat) (a : Nat → Nat) (b : Nat → Nat → Nat)  : Met l yX8_shipsAtSea (wl yX8_shipsAtSea cX8_shipsAtSea 3 (some .int)) (RM 0 0 0) (rd_P D E [.ref h0] [(h0, .inr (8, xF a 0)), ((a 4), .inl (E 4, 5, .inr (.inr (.inr (.inr (fun j => some (a (13 + j)))))))), ((a 13), .inr (5, sF (b 0))), ((a 14), .inr (5, sF (b 1))), ((a 15), .inr (5, sF (b 2))), ((a 16), .inr (5, sF (b 3))), ((a 17), .inr (5, sF (b 4)))]) (rd_Q (fun r => (r = 0 ∧ True))) 0 0 (fun _ => False) := by
  refine Met.ofW (cc := cX8_shipsAtSea) (maxL := 3) (ret := (some .int)) (by decide) rfl ?_
  intro p e s m args below meth c s₁ B hml hv
  obtain ⟨rfl, hP, hK⟩ := hv
  have hx := B.exec
  have hb := B.bytes
  have hr := B.returns
  have hts := atoms_spec (ws := wl yX8_shipsAtSea cX8_shipsAtSea 3 (some .int)) B.pre
  have htb : ∀ w ∈ tb, w.before _ s = true := fun w h => hts w (List.mem_cons_of_mem _ h)
  have hown : s.vm.findClass RX8 = some m.cls := findClass_of_methodNamed B.named
  have hlocks := B.notSynchronized
  have hP : va_P D vwCl [(h0, .inr (8, xF a 0)), ((a 4), .inl (E 4, 5, .inr (.inr (.inr (.inr (fun j => some (a (13 + j)))))))), ((a 13), .inr (5, sF (b 0))), ((a 14), .inr (5, sF (b 1))), ((a 15), .inr (5, sF (b 2))), ((a 16), .inr (5, sF (b 3))), ((a 17), .inr (5, sF (b 4)))] s.heap := hP
  have hl := lv_entry ([.ref h0]) (n := 3) (Nat.le_of_ble_eq_true rfl)
  rw [lg_entry_eq]
  generalize (lg_sl ([.ref h0]) ++ List.replicate (3 - (lg_sl ([.ref h0])).length) Slot.unset).toArray = ls at hl ⊢
  have hl : lv_has ls 3 [(0, .ref h0)] := hl
  refine lv_iconst (v := 0) hx hb dX8_shipsAtSea_0 (by decide) ?_
  refine lv_istore_n (lv' := [(1, .int 0), (0, .ref h0)]) hx hb dX8_shipsAtSea_1 rfl hl (by decide) rfl (fun ls hl => ?_)
  refine lv_iconst (v := 0) hx hb dX8_shipsAtSea_2 (by decide) ?_
  refine lv_istore_n (lv' := [(2, .int 0), (1, .int 0), (0, .ref h0)]) hx hb dX8_shipsAtSea_3 rfl hl (by decide) rfl (fun ls hl => ?_)
  refine lv_iload_n hx hb dX8_shipsAtSea_4 rfl (lv_at hl 0 rfl) ?_
  refine lv_iconst (v := 5) hx hb dX8_shipsAtSea_5 (by decide) ?_
  refine lv_icmp_ge (tgt := 31) hx hb dX8_shipsAtSea_6 (by decide) (fun c_1 => absurd c_1 (by decide)) (fun c_1 => ?_)
  refine lv_aload_n hx hb dX8_shipsAtSea_9 rfl (lv_at hl 2 rfl) ?_
  refine va_get (D := D) (ci := 8) (v := .ref (a 4)) (C := RX8) (T := TX8) (N := 14) hx hb htb iX8 hown hK.1 hP 0 rfl rfl 4 (by decide) (htb _ k_276) (fun _ h9 => h9) rfl dX8_shipsAtSea_10 ?_
  refine lv_iload_n hx hb dX8_shipsAtSea_13 rfl (lv_at hl 0 rfl) ?_
  refine va_aldq hx hb hK.1 hP 1 4 rfl rfl (g_in t_0 (by decide) (by decide)) dX8_shipsAtSea_14 ?_
  refine W_top (y := .ref (a 13)) (congrArg (fun n => Value.ref (a n)) (by decide : 13 + (0 : Int32).toNatClampNeg = 13)) ?_
  refine va_getN (D := D) (ci := 5) (v := .int 0) (C := RX5) (T := TX5) (N := 11) hx hb htb iX5 hown hK.1 hP 2 rfl rfl 8 (by decide) (va_Nw.use rfl (hK.2.1 (Cond.fieldLinkNest RX8 208 "SeaWatches$Ship" "stage" "I" "SeaWatches") (by decide +kernel))) (fun _ h9 => h9) rfl dX8_shipsAtSea_15 ?_
  refine lv_iconst (v := 1) hx hb dX8_shipsAtSea_18 (by decide) ?_
  refine lv_icmp_ne (tgt := 25) hx hb dX8_shipsAtSea_19 (by decide) (fun c_2 => ?_) (fun c_2 => absurd c_2 (by decide))
  refine lv_iinc (v := 1) (lv' := [(2, .int 1), (1, .int 0), (0, .ref h0)]) hx hb dX8_shipsAtSea_25 hl (k := 0) rfl (by decide) (by decide) rfl (fun ls hl => ?_)
  refine lv_goto (tgt := 4) hx hb dX8_shipsAtSea_28 (by decide) ?_
  refine lv_iload_n hx hb dX8_shipsAtSea_4 rfl (lv_at hl 0 rfl) ?_
  refine lv_iconst (v := 5) hx hb dX8_shipsAtSea_5 (by decide) ?_
  refine lv_icmp_ge (tgt := 31) hx hb dX8_shipsAtSea_6 (by decide) (fun c_3 => absurd c_3 (by decide)) (fun c_3 => ?_)
  refine lv_aload_n hx hb dX8_shipsAtSea_9 rfl (lv_at hl 2 rfl) ?_
  refine va_get (D := D) (ci := 8) (v := .ref (a 4)) (C := RX8) (T := TX8) (N := 14) hx hb htb iX8 hown hK.1 hP 0 rfl rfl 4 (by decide) (htb _ k_276) (fun _ h9 => h9) rfl dX8_shipsAtSea_10 ?_
  refine lv_iload_n hx hb dX8_shipsAtSea_13 rfl (lv_at hl 0 rfl) ?_
  refine va_aldq hx hb hK.1 hP 1 4 rfl rfl (g_in t_1 (by decide) (by decide)) dX8_shipsAtSea_14 ?_
  refine W_top (y := .ref (a 14)) (congrArg (fun n => Value.ref (a n)) (by decide : 13 + (1 : Int32).toNatClampNeg = 14)) ?_
  refine va_getN (D := D) (ci := 5) (v := .int 0) (C := RX5) (T := TX5) (N := 11) hx hb htb iX5 hown hK.1 hP 3 rfl rfl 8 (by decide) (va_Nw.use rfl (hK.2.1 (Cond.fieldLinkNest RX8 208 "SeaWatches$Ship" "stage" "I" "SeaWatches") (by decide +kernel))) (fun _ h9 => h9) rfl dX8_shipsAtSea_15 ?_
  refine lv_iconst (v := 1) hx hb dX8_shipsAtSea_18 (by decide) ?_
  refine lv_icmp_ne (tgt := 25) hx hb dX8_shipsAtSea_19 (by decide) (fun c_4 => ?_) (fun c_4 => absurd c_4 (by decide))
  refine lv_iinc (v := 2) (lv' := [(2, .int 2), (1, .int 0), (0, .ref h0)]) hx hb dX8_shipsAtSea_25 hl (k := 0) rfl (by decide) (by decide) rfl (fun ls hl => ?_)
  refine lv_goto (tgt := 4) hx hb dX8_shipsAtSea_28 (by decide) ?_
  refine lv_iload_n hx hb dX8_shipsAtSea_4 rfl (lv_at hl 0 rfl) ?_
  refine lv_iconst (v := 5) hx hb dX8_shipsAtSea_5 (by decide) ?_
  refine lv_icmp_ge (tgt := 31) hx hb dX8_shipsAtSea_6 (by decide) (fun c_5 => absurd c_5 (by decide)) (fun c_5 => ?_)
  refine lv_aload_n hx hb dX8_shipsAtSea_9 rfl (lv_at hl 2 rfl) ?_
  refine va_get (D := D) (ci := 8) (v := .ref (a 4)) (C := RX8) (T := TX8) (N := 14) hx hb htb iX8 hown hK.1 hP 0 rfl rfl 4 (by decide) (htb _ k_276) (fun _ h9 => h9) rfl dX8_shipsAtSea_10 ?_
  refine lv_iload_n hx hb dX8_shipsAtSea_13 rfl (lv_at hl 0 rfl) ?_
  refine va_aldq hx hb hK.1 hP 1 4 rfl rfl (g_in t_2 (by decide) (by decide)) dX8_shipsAtSea_14 ?_
  refine W_top (y := .ref (a 15)) (congrArg (fun n => Value.ref (a n)) (by decide : 13 + (2 : Int32).toNatClampNeg = 15)) ?_
  refine va_getN (D := D) (ci := 5) (v := .int 0) (C := RX5) (T := TX5) (N := 11) hx hb htb iX5 hown hK.1 hP 4 rfl rfl 8 (by decide) (va_Nw.use rfl (hK.2.1 (Cond.fieldLinkNest RX8 208 "SeaWatches$Ship" "stage" "I" "SeaWatches") (by decide +kernel))) (fun _ h9 => h9) rfl dX8_shipsAtSea_15 ?_
  refine lv_iconst (v := 1) hx hb dX8_shipsAtSea_18 (by decide) ?_
  refine lv_icmp_ne (tgt := 25) hx hb dX8_shipsAtSea_19 (by decide) (fun c_6 => ?_) (fun c_6 => absurd c_6 (by decide))
  refine lv_iinc (v := 3) (lv' := [(2, .int 3), (1, .int 0), (0, .ref h0)]) hx hb dX8_shipsAtSea_25 hl (k := 0) rfl (by decide) (by decide) rfl (fun ls hl => ?_)
  refine lv_goto (tgt := 4) hx hb dX8_shipsAtSea_28 (by decide) ?_
  refine lv_iload_n hx hb dX8_shipsAtSea_4 rfl (lv_at hl 0 rfl) ?_
  refine lv_iconst (v := 5) hx hb dX8_shipsAtSea_5 (by decide) ?_
  refine lv_icmp_ge (tgt := 31) hx hb dX8_shipsAtSea_6 (by decide) (fun c_7 => absurd c_7 (by decide)) (fun c_7 => ?_)
  refine lv_aload_n hx hb dX8_shipsAtSea_9 rfl (lv_at hl 2 rfl) ?_
  refine va_get (D := D) (ci := 8) (v := .ref (a 4)) (C := RX8) (T := TX8) (N := 14) hx hb htb iX8 hown hK.1 hP 0 rfl rfl 4 (by decide) (htb _ k_276) (fun _ h9 => h9) rfl dX8_shipsAtSea_10 ?_
  refine lv_iload_n hx hb dX8_shipsAtSea_13 rfl (lv_at hl 0 rfl) ?_
  refine va_aldq hx hb hK.1 hP 1 4 rfl rfl (g_in t_3 (by decide) (by decide)) dX8_shipsAtSea_14 ?_
  refine W_top (y := .ref (a 16)) (congrArg (fun n => Value.ref (a n)) (by decide : 13 + (3 : Int32).toNatClampNeg = 16)) ?_
  refine va_getN (D := D) (ci := 5) (v := .int 0) (C := RX5) (T := TX5) (N := 11) hx hb htb iX5 hown hK.1 hP 5 rfl rfl 8 (by decide) (va_Nw.use rfl (hK.2.1 (Cond.fieldLinkNest RX8 208 "SeaWatches$Ship" "stage" "I" "SeaWatches") (by decide +kernel))) (fun _ h9 => h9) rfl dX8_shipsAtSea_15 ?_
  refine lv_iconst (v := 1) hx hb dX8_shipsAtSea_18 (by decide) ?_
  refine lv_icmp_ne (tgt := 25) hx hb dX8_shipsAtSea_19 (by decide) (fun c_8 => ?_) (fun c_8 => absurd c_8 (by decide))
  refine lv_iinc (v := 4) (lv' := [(2, .int 4), (1, .int 0), (0, .ref h0)]) hx hb dX8_shipsAtSea_25 hl (k := 0) rfl (by decide) (by decide) rfl (fun ls hl => ?_)
  refine lv_goto (tgt := 4) hx hb dX8_shipsAtSea_28 (by decide) ?_
  refine lv_iload_n hx hb dX8_shipsAtSea_4 rfl (lv_at hl 0 rfl) ?_
  refine lv_iconst (v := 5) hx hb dX8_shipsAtSea_5 (by decide) ?_
  refine lv_icmp_ge (tgt := 31) hx hb dX8_shipsAtSea_6 (by decide) (fun c_9 => absurd c_9 (by decide)) (fun c_9 => ?_)
  refine lv_aload_n hx hb dX8_shipsAtSea_9 rfl (lv_at hl 2 rfl) ?_
  refine va_get (D := D) (ci := 8) (v := .ref (a 4)) (C := RX8) (T := TX8) (N := 14) hx hb htb iX8 hown hK.1 hP 0 rfl rfl 4 (by decide) (htb _ k_276) (fun _ h9 => h9) rfl dX8_shipsAtSea_10 ?_
  refine lv_iload_n hx hb dX8_shipsAtSea_13 rfl (lv_at hl 0 rfl) ?_
  refine va_aldq hx hb hK.1 hP 1 4 rfl rfl (g_in t_4 (by decide) (by decide)) dX8_shipsAtSea_14 ?_
  refine W_top (y := .ref (a 17)) (congrArg (fun n => Value.ref (a n)) (by decide : 13 + (4 : Int32).toNatClampNeg = 17)) ?_
  refine va_getN (D := D) (ci := 5) (v := .int 0) (C := RX5) (T := TX5) (N := 11) hx hb htb iX5 hown hK.1 hP 6 rfl rfl 8 (by decide) (va_Nw.use rfl (hK.2.1 (Cond.fieldLinkNest RX8 208 "SeaWatches$Ship" "stage" "I" "SeaWatches") (by decide +kernel))) (fun _ h9 => h9) rfl dX8_shipsAtSea_15 ?_
  refine lv_iconst (v := 1) hx hb dX8_shipsAtSea_18 (by decide) ?_
  refine lv_icmp_ne (tgt := 25) hx hb dX8_shipsAtSea_19 (by decide) (fun c_10 => ?_) (fun c_10 => absurd c_10 (by decide))
  refine lv_iinc (v := 5) (lv' := [(2, .int 5), (1, .int 0), (0, .ref h0)]) hx hb dX8_shipsAtSea_25 hl (k := 0) rfl (by decide) (by decide) rfl (fun ls hl => ?_)
  refine lv_goto (tgt := 4) hx hb dX8_shipsAtSea_28 (by decide) ?_
  refine lv_iload_n hx hb dX8_shipsAtSea_4 rfl (lv_at hl 0 rfl) ?_
  refine lv_iconst (v := 5) hx hb dX8_shipsAtSea_5 (by decide) ?_
  refine lv_icmp_ge (tgt := 31) hx hb dX8_shipsAtSea_6 (by decide) (fun c_11 => ?_) (fun c_11 => absurd (by decide) c_11)
  refine lv_iload_n hx hb dX8_shipsAtSea_31 rfl (lv_at hl 1 rfl) ?_
  exact W.iret (v := 0) hx hb hr (fun t ht hW => ⟨0, rfl, ⟨rfl, trivial⟩, ht⟩) (fun q h => by cases h) dX8_shipsAtSea_32
set_option maxHeartbeats 4000000 in
set_option maxRecDepth 100000 in
theorem c_X5_mayBeSighted (l : Launch) (D : va_G) (E : Nat → Nat) (h0 : Nat) (b : Nat → Nat) (p0 : Int32)  : Met l yX5_mayBeSighted (wl yX5_mayBeSighted cX5_mayBeSighted 2 (some .boolean)) (RM 0 0 0) (rd_P D E [.ref h0, .int p0] [(h0, .inr (5, sF b))]) (rd_Q (fun r => (r = 1 ∧ True))) 0 0 (fun _ => False) := by
  refine Met.ofW (cc := cX5_mayBeSighted) (maxL := 2) (ret := (some .boolean)) (by decide) rfl ?_
  intro p e s m args below meth c s₁ B hml hv
  obtain ⟨rfl, hP, hK⟩ := hv
  have hx := B.exec
  have hb := B.bytes
  have hr := B.returns
  have hts := atoms_spec (ws := wl yX5_mayBeSighted cX5_mayBeSighted 2 (some .boolean)) B.pre
  have htb : ∀ w ∈ tb, w.before _ s = true := fun w h => hts w (List.mem_cons_of_mem _ h)
  have hown : s.vm.findClass RX5 = some m.cls := findClass_of_methodNamed B.named
  have hlocks := B.notSynchronized
  have hP : va_P D vwCl [(h0, .inr (5, sF b))] s.heap := hP
  have hl := lv_entry ([.ref h0, .int p0]) (n := 2) (Nat.le_of_ble_eq_true rfl)
  rw [lg_entry_eq]
  generalize (lg_sl ([.ref h0, .int p0]) ++ List.replicate (2 - (lg_sl ([.ref h0, .int p0])).length) Slot.unset).toArray = ls at hl ⊢
  have hl : lv_has ls 2 [(0, .ref h0), (1, .int p0)] := hl
  have lo_p0 := i_lo p0
  have hi_p0 := i_hi p0
  refine lv_aload_n hx hb dX5_mayBeSighted_0 rfl (lv_at hl 0 rfl) ?_
  refine va_get (D := D) (ci := 5) (v := .int 0) (C := RX5) (T := TX5) (N := 11) hx hb htb iX5 hown hK.1 hP 0 rfl rfl 8 (by decide) (htb _ k_243) (fun _ h9 => h9) rfl dX5_mayBeSighted_1 ?_
  refine lv_if_ne (tgt := 9) hx hb dX5_mayBeSighted_4 (by decide) (fun c_1 => absurd (by decide) c_1) (fun c_1 => ?_)
  refine lv_iconst (v := 1) hx hb dX5_mayBeSighted_7 (by decide) ?_
  exact W.zret (v := 1) hx hb hr rfl (fun t ht hW => ⟨1, rfl, ⟨rfl, trivial⟩, ht⟩) (fun q h => by cases h) dX5_mayBeSighted_8
end
section
set_option maxHeartbeats 4000000 in
set_option maxRecDepth 100000 in
theorem c_X8_take (l : Launch) (D : va_G) (E : Nat → Nat) (h0 : Nat) (a : Nat → Nat) (p0 : Int32)  : Met l yX8_take (wl yX8_take cX8_take 3 (some .int)) (RM 1 0 0) (rd_P D E [.ref h0, .int p0] [(h0, .inr (8, xF a 0)), ((a 1), .inl (E 0, 16, .inl (fun _ => -5)))]) (rd_Q (fun r => (r = (-2) ∧ (0 ≤ p0.toInt ∧ p0.toInt ≤ 15)) ∨ (r = (-1) ∧ ¬ (0 ≤ p0.toInt ∧ p0.toInt ≤ 15)))) 0 0 (fun _ => False) := by
  refine Met.ofW (cc := cX8_take) (maxL := 3) (ret := (some .int)) (by decide) rfl ?_
  intro p e s m args below meth c s₁ B hml hv
  obtain ⟨rfl, hP, hK⟩ := hv
  have hx := B.exec
  have hb := B.bytes
  have hr := B.returns
  have hts := atoms_spec (ws := wl yX8_take cX8_take 3 (some .int)) B.pre
  have htb : ∀ w ∈ tb, w.before _ s = true := fun w h => hts w (List.mem_cons_of_mem _ h)
  have hown : s.vm.findClass RX8 = some m.cls := findClass_of_methodNamed B.named
  have hlocks := B.notSynchronized
  have hP : va_P D vwCl [(h0, .inr (8, xF a 0)), ((a 1), .inl (E 0, 16, .inl (fun _ => -5)))] s.heap := hP
  have hl := lv_entry ([.ref h0, .int p0]) (n := 3) (Nat.le_of_ble_eq_true rfl)
  rw [lg_entry_eq]
  generalize (lg_sl ([.ref h0, .int p0]) ++ List.replicate (3 - (lg_sl ([.ref h0, .int p0])).length) Slot.unset).toArray = ls at hl ⊢
  have hl : lv_has ls 3 [(0, .ref h0), (1, .int p0)] := hl
  have lo_p0 := i_lo p0
  have hi_p0 := i_hi p0
  refine lv_iload_n hx hb dX8_take_0 rfl (lv_at hl 1 rfl) ?_
  refine callRS (rest := []) (As := [.int p0]) hx hb hml hown htb hK (c_X8_isPlace l D E p0 ) ok_X8_isPlace k_333 k_334 k_1 k_335 ⟨(Nat.le_of_ble_eq_true rfl), (Nat.le_of_ble_eq_true rfl)⟩ ⟨(Nat.le_of_ble_eq_true rfl), (Nat.le_of_ble_eq_true rfl)⟩ hl.1 (Nat.le_of_ble_eq_true rfl) rfl rfl dX8_take_1 (hP.sub (ws' := ([] : va_W)) [] rfl) (fun r_2 hw_1 => ?_)
  rcases hw_1 with ⟨hr_2, hw_1⟩ | ⟨hr_2, hw_1⟩
  ·
    refine W_top (y := .int 1) (by rw [hr_2]) ?_
    refine lv_if_ne (tgt := 9) hx hb dX8_take_4 (by decide) (fun c_3 => ?_) (fun c_3 => absurd c_3 (by decide))
    refine lv_aload_n hx hb dX8_take_9 rfl (lv_at hl 0 rfl) ?_
    refine va_get (D := D) (ci := 8) (v := .ref (a 1)) (C := RX8) (T := TX8) (N := 14) hx hb htb iX8 hown hK.1 hP 0 rfl rfl 1 (by decide) (htb _ k_273) (fun _ h9 => h9) rfl dX8_take_10 ?_
    refine lv_iload_n hx hb dX8_take_13 rfl (lv_at hl 1 rfl) ?_
    refine va_iald hx hb hK.1 hP 1 0 rfl rfl (g_in rfl (by omega) (by omega)) dX8_take_14 ?_
    refine W_top (y := .int (-5)) rfl ?_
    refine lv_bipush (v := (-5)) hx hb dX8_take_15 (by decide) ?_
    refine lv_icmp_ne (tgt := 23) hx hb dX8_take_17 (by decide) (fun c_4 => absurd (by decide) c_4) (fun c_4 => ?_)
    refine lv_bipush (v := (-2)) hx hb dX8_take_20 (by decide) ?_
    exact W.iret (v := (-2)) hx hb hr (fun t ht hW => ⟨(-2), rfl, by first | exact Or.inl ⟨rfl, by omega⟩ | (exfalso; omega), ht⟩) (fun q h => by cases h) dX8_take_22
  ·
    refine W_top (y := .int 0) (by rw [hr_2]) ?_
    refine lv_if_ne (tgt := 9) hx hb dX8_take_4 (by decide) (fun c_5 => absurd (by decide) c_5) (fun c_5 => ?_)
    refine lv_iconst (v := (-1)) hx hb dX8_take_7 (by decide) ?_
    exact W.iret (v := (-1)) hx hb hr (fun t ht hW => ⟨(-1), rfl, by first | exact Or.inr ⟨rfl, by omega⟩ | (exfalso; omega), ht⟩) (fun q h => by cases h) dX8_take_8
set_option maxHeartbeats 4000000 in
set_option maxRecDepth 100000 in
theorem c_X8_holds (l : Launch) (D : va_G) (E : Nat → Nat) (h0 : Nat) (a : Nat → Nat) (p0 : Int32)  : Met l yX8_holds (wl yX8_holds cX8_holds 2 (some .int)) (RM 1 0 0) (rd_P D E [.ref h0, .int p0] [(h0, .inr (8, xF a 0)), ((a 1), .inl (E 0, 16, .inl (fun _ => -5)))]) (rd_Q (fun r => (r = (-5) ∧ (0 ≤ p0.toInt ∧ p0.toInt ≤ 15)) ∨ (r = (-1) ∧ ¬ (0 ≤ p0.toInt ∧ p0.toInt ≤ 15)))) 0 0 (fun _ => False) := by
  refine Met.ofW (cc := cX8_holds) (maxL := 2) (ret := (some .int)) (by decide) rfl ?_
  intro p e s m args below meth c s₁ B hml hv
  obtain ⟨rfl, hP, hK⟩ := hv
  have hx := B.exec
  have hb := B.bytes
  have hr := B.returns
  have hts := atoms_spec (ws := wl yX8_holds cX8_holds 2 (some .int)) B.pre
  have htb : ∀ w ∈ tb, w.before _ s = true := fun w h => hts w (List.mem_cons_of_mem _ h)
  have hown : s.vm.findClass RX8 = some m.cls := findClass_of_methodNamed B.named
  have hlocks := B.notSynchronized
  have hP : va_P D vwCl [(h0, .inr (8, xF a 0)), ((a 1), .inl (E 0, 16, .inl (fun _ => -5)))] s.heap := hP
  have hl := lv_entry ([.ref h0, .int p0]) (n := 2) (Nat.le_of_ble_eq_true rfl)
  rw [lg_entry_eq]
  generalize (lg_sl ([.ref h0, .int p0]) ++ List.replicate (2 - (lg_sl ([.ref h0, .int p0])).length) Slot.unset).toArray = ls at hl ⊢
  have hl : lv_has ls 2 [(0, .ref h0), (1, .int p0)] := hl
  have lo_p0 := i_lo p0
  have hi_p0 := i_hi p0
  refine lv_iload_n hx hb dX8_holds_0 rfl (lv_at hl 1 rfl) ?_
  refine callRS (rest := []) (As := [.int p0]) hx hb hml hown htb hK (c_X8_isPlace l D E p0 ) ok_X8_isPlace k_333 k_334 k_1 k_335 ⟨(Nat.le_of_ble_eq_true rfl), (Nat.le_of_ble_eq_true rfl)⟩ ⟨(Nat.le_of_ble_eq_true rfl), (Nat.le_of_ble_eq_true rfl)⟩ hl.1 (Nat.le_of_ble_eq_true rfl) rfl rfl dX8_holds_1 (hP.sub (ws' := ([] : va_W)) [] rfl) (fun r_2 hw_1 => ?_)
  rcases hw_1 with ⟨hr_2, hw_1⟩ | ⟨hr_2, hw_1⟩
  ·
    refine W_top (y := .int 1) (by rw [hr_2]) ?_
    refine lv_if_eq (tgt := 16) hx hb dX8_holds_4 (by decide) (fun c_3 => absurd c_3 (by decide)) (fun c_3 => ?_)
    refine lv_aload_n hx hb dX8_holds_7 rfl (lv_at hl 0 rfl) ?_
    refine va_get (D := D) (ci := 8) (v := .ref (a 1)) (C := RX8) (T := TX8) (N := 14) hx hb htb iX8 hown hK.1 hP 0 rfl rfl 1 (by decide) (htb _ k_273) (fun _ h9 => h9) rfl dX8_holds_8 ?_
    refine lv_iload_n hx hb dX8_holds_11 rfl (lv_at hl 1 rfl) ?_
    refine va_iald hx hb hK.1 hP 1 0 rfl rfl (g_in rfl (by omega) (by omega)) dX8_holds_12 ?_
    refine W_top (y := .int (-5)) rfl ?_
    refine lv_goto (tgt := 17) hx hb dX8_holds_13 (by decide) ?_
    exact W.iret (v := (-5)) hx hb hr (fun t ht hW => ⟨(-5), rfl, by first | exact Or.inl ⟨rfl, by omega⟩ | (exfalso; omega), ht⟩) (fun q h => by cases h) dX8_holds_17
  ·
    refine W_top (y := .int 0) (by rw [hr_2]) ?_
    refine lv_if_eq (tgt := 16) hx hb dX8_holds_4 (by decide) (fun c_4 => ?_) (fun c_4 => absurd (by decide) c_4)
    refine lv_iconst (v := (-1)) hx hb dX8_holds_16 (by decide) ?_
    exact W.iret (v := (-1)) hx hb hr (fun t ht hW => ⟨(-1), rfl, by first | exact Or.inr ⟨rfl, by omega⟩ | (exfalso; omega), ht⟩) (fun q h => by cases h) dX8_holds_17
set_option maxHeartbeats 4000000 in
set_option maxRecDepth 100000 in
theorem c_X8_read (l : Launch) (D : va_G) (E : Nat → Nat) (h0 : Nat) (a : Nat → Nat) (p0 : Int32)  : Met l yX8_read (wl yX8_read cX8_read 2 (some .int)) (RM 1 0 0) (rd_P D E [.ref h0, .int p0] [(h0, .inr (8, xF a 0)), ((a 1), .inl (E 0, 16, .inl (fun _ => -5)))]) (rd_Q (fun r => (r = (-2000000000) ∧ True))) 0 0 (fun _ => False) := by
  refine Met.ofW (cc := cX8_read) (maxL := 2) (ret := (some .int)) (by decide) rfl ?_
  intro p e s m args below meth c s₁ B hml hv
  obtain ⟨rfl, hP, hK⟩ := hv
  have hx := B.exec
  have hb := B.bytes
  have hr := B.returns
  have hts := atoms_spec (ws := wl yX8_read cX8_read 2 (some .int)) B.pre
  have htb : ∀ w ∈ tb, w.before _ s = true := fun w h => hts w (List.mem_cons_of_mem _ h)
  have hown : s.vm.findClass RX8 = some m.cls := findClass_of_methodNamed B.named
  have hlocks := B.notSynchronized
  have hP : va_P D vwCl [(h0, .inr (8, xF a 0)), ((a 1), .inl (E 0, 16, .inl (fun _ => -5)))] s.heap := hP
  have hl := lv_entry ([.ref h0, .int p0]) (n := 2) (Nat.le_of_ble_eq_true rfl)
  rw [lg_entry_eq]
  generalize (lg_sl ([.ref h0, .int p0]) ++ List.replicate (2 - (lg_sl ([.ref h0, .int p0])).length) Slot.unset).toArray = ls at hl ⊢
  have hl : lv_has ls 2 [(0, .ref h0), (1, .int p0)] := hl
  have lo_p0 := i_lo p0
  have hi_p0 := i_hi p0
  refine lv_iload_n hx hb dX8_read_0 rfl (lv_at hl 1 rfl) ?_
  refine callRS (rest := []) (As := [.int p0]) hx hb hml hown htb hK (c_X8_isPlace l D E p0 ) ok_X8_isPlace k_333 k_334 k_1 k_335 ⟨(Nat.le_of_ble_eq_true rfl), (Nat.le_of_ble_eq_true rfl)⟩ ⟨(Nat.le_of_ble_eq_true rfl), (Nat.le_of_ble_eq_true rfl)⟩ hl.1 (Nat.le_of_ble_eq_true rfl) rfl rfl dX8_read_1 (hP.sub (ws' := ([] : va_W)) [] rfl) (fun r_2 hw_1 => ?_)
  rcases hw_1 with ⟨hr_2, hw_1⟩ | ⟨hr_2, hw_1⟩
  ·
    refine W_top (y := .int 1) (by rw [hr_2]) ?_
    refine lv_if_eq (tgt := 27) hx hb dX8_read_4 (by decide) (fun c_3 => absurd c_3 (by decide)) (fun c_3 => ?_)
    refine lv_aload_n hx hb dX8_read_7 rfl (lv_at hl 0 rfl) ?_
    refine va_get (D := D) (ci := 8) (v := .ref (a 1)) (C := RX8) (T := TX8) (N := 14) hx hb htb iX8 hown hK.1 hP 0 rfl rfl 1 (by decide) (htb _ k_273) (fun _ h9 => h9) rfl dX8_read_8 ?_
    refine lv_iload_n hx hb dX8_read_11 rfl (lv_at hl 1 rfl) ?_
    refine va_iald hx hb hK.1 hP 1 0 rfl rfl (g_in rfl (by omega) (by omega)) dX8_read_12 ?_
    refine W_top (y := .int (-5)) rfl ?_
    refine lv_iconst (v := 1) hx hb dX8_read_13 (by decide) ?_
    refine lv_icmp_eq (tgt := 30) hx hb dX8_read_14 (by decide) (fun c_4 => absurd c_4 (by decide)) (fun c_4 => ?_)
    refine lv_aload_n hx hb dX8_read_17 rfl (lv_at hl 0 rfl) ?_
    refine va_get (D := D) (ci := 8) (v := .ref (a 1)) (C := RX8) (T := TX8) (N := 14) hx hb htb iX8 hown hK.1 hP 0 rfl rfl 1 (by decide) (htb _ k_273) (fun _ h9 => h9) rfl dX8_read_18 ?_
    refine lv_iload_n hx hb dX8_read_21 rfl (lv_at hl 1 rfl) ?_
    refine va_iald hx hb hK.1 hP 1 0 rfl rfl (g_in rfl (by omega) (by omega)) dX8_read_22 ?_
    refine W_top (y := .int (-5)) rfl ?_
    refine lv_iconst (v := 2) hx hb dX8_read_23 (by decide) ?_
    refine lv_icmp_eq (tgt := 30) hx hb dX8_read_24 (by decide) (fun c_5 => absurd c_5 (by decide)) (fun c_5 => ?_)
    refine lv_ldc hx hb hown (htb _ k_386) dX8_read_27 ?_
    exact W.iret (v := (-2000000000)) hx hb hr (fun t ht hW => ⟨(-2000000000), rfl, ⟨rfl, trivial⟩, ht⟩) (fun q h => by cases h) dX8_read_29
  ·
    refine W_top (y := .int 0) (by rw [hr_2]) ?_
    refine lv_if_eq (tgt := 27) hx hb dX8_read_4 (by decide) (fun c_6 => ?_) (fun c_6 => absurd (by decide) c_6)
    refine lv_ldc hx hb hown (htb _ k_386) dX8_read_27 ?_
    exact W.iret (v := (-2000000000)) hx hb hr (fun t ht hW => ⟨(-2000000000), rfl, ⟨rfl, trivial⟩, ht⟩) (fun q h => by cases h) dX8_read_29
set_option maxHeartbeats 4000000 in
set_option maxRecDepth 100000 in
theorem c_X8_compare (l : Launch) (D : va_G) (E : Nat → Nat) (h0 : Nat) (a : Nat → Nat) (p0 : Int32) (p1 : Int32) (p2 : Int32) (p3 : Int32)  : Met l yX8_compare (wl yX8_compare cX8_compare 6 (some .int)) (RM 2 0 0) (rd_P D E [.ref h0, .int p0, .int p1, .int p2, .int p3] [(h0, .inr (8, xF a 0)), ((a 1), .inl (E 0, 16, .inl (fun _ => -5)))]) (rd_Q (fun r => (r = (-2) ∧ ((0 ≤ p0.toInt ∧ p0.toInt ≤ 15) ∧ (0 ≤ p1.toInt ∧ p1.toInt ≤ 0) ∧ (-100000 ≤ p2.toInt ∧ p2.toInt ≤ 100000) ∧ (0 ≤ p3.toInt ∧ p3.toInt ≤ 5))) ∨ (r = (-1) ∧ ¬ ((0 ≤ p0.toInt ∧ p0.toInt ≤ 15) ∧ (0 ≤ p1.toInt ∧ p1.toInt ≤ 0) ∧ (-100000 ≤ p2.toInt ∧ p2.toInt ≤ 100000) ∧ (0 ≤ p3.toInt ∧ p3.toInt ≤ 5))))) 0 0 (fun _ => False) := by
  refine Met.ofW (cc := cX8_compare) (maxL := 6) (ret := (some .int)) (by decide) rfl ?_
  intro p e s m args below meth c s₁ B hml hv
  obtain ⟨rfl, hP, hK⟩ := hv
  have hx := B.exec
  have hb := B.bytes
  have hr := B.returns
  have hts := atoms_spec (ws := wl yX8_compare cX8_compare 6 (some .int)) B.pre
  have htb : ∀ w ∈ tb, w.before _ s = true := fun w h => hts w (List.mem_cons_of_mem _ h)
  have hown : s.vm.findClass RX8 = some m.cls := findClass_of_methodNamed B.named
  have hlocks := B.notSynchronized
  have hP : va_P D vwCl [(h0, .inr (8, xF a 0)), ((a 1), .inl (E 0, 16, .inl (fun _ => -5)))] s.heap := hP
  have hl := lv_entry ([.ref h0, .int p0, .int p1, .int p2, .int p3]) (n := 6) (Nat.le_of_ble_eq_true rfl)
  rw [lg_entry_eq]
  generalize (lg_sl ([.ref h0, .int p0, .int p1, .int p2, .int p3]) ++ List.replicate (6 - (lg_sl ([.ref h0, .int p0, .int p1, .int p2, .int p3])).length) Slot.unset).toArray = ls at hl ⊢
  have hl : lv_has ls 6 [(0, .ref h0), (1, .int p0), (2, .int p1), (3, .int p2), (4, .int p3)] := hl
  have lo_p0 := i_lo p0
  have hi_p0 := i_hi p0
  have lo_p1 := i_lo p1
  have hi_p1 := i_hi p1
  have lo_p2 := i_lo p2
  have hi_p2 := i_hi p2
  have lo_p3 := i_lo p3
  have hi_p3 := i_hi p3
  refine lv_iload_n hx hb dX8_compare_0 rfl (lv_at hl 1 rfl) ?_
  refine callRS (rest := []) (As := [.int p0]) hx hb hml hown htb hK (c_X8_isPlace l D E p0 ) ok_X8_isPlace k_333 k_334 k_1 k_335 ⟨(Nat.le_of_ble_eq_true rfl), (Nat.le_of_ble_eq_true rfl)⟩ ⟨(Nat.le_of_ble_eq_true rfl), (Nat.le_of_ble_eq_true rfl)⟩ hl.1 (Nat.le_of_ble_eq_true rfl) rfl rfl dX8_compare_1 (hP.sub (ws' := ([] : va_W)) [] rfl) (fun r_2 hw_1 => ?_)
  rcases hw_1 with ⟨hr_2, hw_1⟩ | ⟨hr_2, hw_1⟩
  ·
    refine W_top (y := .int 1) (by rw [hr_2]) ?_
    refine lv_if_eq (tgt := 36) hx hb dX8_compare_4 (by decide) (fun c_3 => absurd c_3 (by decide)) (fun c_3 => ?_)
    refine lv_aload_n hx hb dX8_compare_7 rfl (lv_at hl 0 rfl) ?_
    refine lv_iload_n hx hb dX8_compare_8 rfl (lv_at hl 2 rfl) ?_
    refine callRV (rest := []) (As := [.int p1]) hx hb hml hown htb hK (c_X8_isPast l D E h0 a p1 ) ok_X8_isPast k_391 k_393 ks_2 k_1 k_394 ⟨(Nat.le_of_ble_eq_true rfl), (Nat.le_of_ble_eq_true rfl)⟩ ⟨(Nat.le_of_ble_eq_true rfl), (Nat.le_of_ble_eq_true rfl)⟩ hl.1 (Nat.le_of_ble_eq_true rfl) rfl rfl dX8_compare_9 (hP.sub (ws' := [(h0, .inr (8, xF a 0))]) [0] rfl) rfl rfl 0 rfl (fun r_5 hw_4 => ?_)
    rcases hw_4 with ⟨hr_5, hw_4⟩ | ⟨hr_5, hw_4⟩
    ·
      refine W_top (y := .int 1) (by rw [hr_5]) ?_
      refine lv_if_eq (tgt := 36) hx hb dX8_compare_12 (by decide) (fun c_6 => absurd c_6 (by decide)) (fun c_6 => ?_)
      refine lv_iload_n hx hb dX8_compare_15 rfl (lv_at hl 3 rfl) ?_
      refine lv_ldc hx hb hown (htb _ k_395) dX8_compare_16 ?_
      refine callRS (rest := []) (As := [.int p2, .int 100000]) hx hb hml hown htb hK (c_X8_isWithin l D E p2 100000 (by decide)) ok_X8_isWithin k_326 k_327 k_1 k_328 ⟨(Nat.le_of_ble_eq_true rfl), (Nat.le_of_ble_eq_true rfl)⟩ ⟨(Nat.le_of_ble_eq_true rfl), (Nat.le_of_ble_eq_true rfl)⟩ hl.1 (Nat.le_of_ble_eq_true rfl) rfl rfl dX8_compare_18 (hP.sub (ws' := ([] : va_W)) [] rfl) (fun r_8 hw_7 => ?_)
      rcases hw_7 with ⟨hr_8, hw_7⟩ | ⟨hr_8, hw_7⟩
      ·
        try simp only [t_100000] at hw_7
        refine W_top (y := .int 1) (by rw [hr_8]) ?_
        refine lv_if_eq (tgt := 36) hx hb dX8_compare_21 (by decide) (fun c_9 => absurd c_9 (by decide)) (fun c_9 => ?_)
        refine lv_iload hx hb dX8_compare_24 (lv_at hl 4 rfl) ?_
        refine lv_if_lt (tgt := 36) hx hb dX8_compare_26 (by decide) (fun c_10 => ?_) (fun c_10 => ?_)
        ·
          have ic_10 : p3.toInt < 0 := by first | exact (g_lt rfl t_0).mp c_10 | (have h := mt (g_le t_0 rfl).mpr c_10; omega)
          refine lv_iconst (v := (-1)) hx hb dX8_compare_36 (by decide) ?_
          exact W.iret (v := (-1)) hx hb hr (fun t ht hW => ⟨(-1), rfl, by first | exact Or.inr ⟨rfl, by omega⟩ | (exfalso; omega), ht⟩) (fun q h => by cases h) dX8_compare_37
        ·
          have ic_10 : 0 ≤ p3.toInt := by first | exact (g_le t_0 rfl).mp c_10 | (have h := mt (g_lt rfl t_0).mpr c_10; omega)
          refine lv_iload hx hb dX8_compare_29 (lv_at hl 4 rfl) ?_
          refine lv_bipush (v := 6) hx hb dX8_compare_31 (by decide) ?_
          refine lv_icmp_lt (tgt := 38) hx hb dX8_compare_33 (by decide) (fun c_11 => ?_) (fun c_11 => ?_)
          ·
            have ic_11 : p3.toInt < 6 := by first | exact (g_lt rfl t_6).mp c_11 | (have h := mt (g_le t_6 rfl).mpr c_11; omega)
            refine lv_aload_n hx hb dX8_compare_38 rfl (lv_at hl 0 rfl) ?_
            refine lv_iload_n hx hb dX8_compare_39 rfl (lv_at hl 1 rfl) ?_
            refine callNV (rest := []) (As := [.int p0]) hx hb hml hown htb hK (c_X8_watchAt l D E h0 a p0 ) ok_X8_watchAt k_369 k_371 ks_1 k_1 k_372 ⟨(Nat.le_of_ble_eq_true rfl), (Nat.le_of_ble_eq_true rfl)⟩ ⟨(Nat.le_of_ble_eq_true rfl), (Nat.le_of_ble_eq_true rfl)⟩ hl.1 (Nat.le_of_ble_eq_true rfl) rfl rfl dX8_compare_40 (hP.sub (ws' := [(h0, .inr (8, xF a 0)), ((a 1), .inl (E 0, 16, .inl (fun _ => -5)))]) [0, 1] rfl) rfl rfl 0 rfl ?_
            refine lv_astoreN (lv' := [(5, .null), (0, .ref h0), (1, .int p0), (2, .int p1), (3, .int p2), (4, .int p3)]) hx hb dX8_compare_43 hl (by decide) rfl (fun ls hl => ?_)
            refine lv_aloadN hx hb dX8_compare_45 (lv_at hl 0 rfl) ?_
            refine lv_ifnonnullN hx hb dX8_compare_47 ?_
            refine lv_aload_n hx hb dX8_compare_50 rfl (lv_at hl 1 rfl) ?_
            refine lv_iload_n hx hb dX8_compare_51 rfl (lv_at hl 2 rfl) ?_
            refine callRV (rest := []) (As := [.int p0]) hx hb hml hown htb hK (c_X8_lackAt l D E h0 a p0 ) ok_X8_lackAt k_396 k_398 ks_3 k_1 k_399 ⟨(Nat.le_of_ble_eq_true rfl), (Nat.le_of_ble_eq_true rfl)⟩ ⟨(Nat.le_of_ble_eq_true rfl), (Nat.le_of_ble_eq_true rfl)⟩ hl.1 (Nat.le_of_ble_eq_true rfl) rfl rfl dX8_compare_52 (hP.sub (ws' := [(h0, .inr (8, xF a 0)), ((a 1), .inl (E 0, 16, .inl (fun _ => -5)))]) [0, 1] rfl) rfl rfl 0 rfl (fun r_14 hw_13 => ?_)
            rcases hw_13 with ⟨hr_14, hw_13⟩ | ⟨hr_14, hw_13⟩
            ·
              refine W_top (y := .int (-2)) (by rw [hr_14]) ?_
              exact W.iret (v := (-2)) hx hb hr (fun t ht hW => ⟨(-2), rfl, by first | exact Or.inl ⟨rfl, by omega⟩ | (exfalso; omega), ht⟩) (fun q h => by cases h) dX8_compare_55
            ·
              refine W_top (y := .int (-1)) (by rw [hr_14]) ?_
              exact W.iret (v := (-1)) hx hb hr (fun t ht hW => ⟨(-1), rfl, by first | exact Or.inr ⟨rfl, by omega⟩ | (exfalso; omega), ht⟩) (fun q h => by cases h) dX8_compare_55
          ·
            have ic_11 : 6 ≤ p3.toInt := by first | exact (g_le t_6 rfl).mp c_11 | (have h := mt (g_lt rfl t_6).mpr c_11; omega)
            refine lv_iconst (v := (-1)) hx hb dX8_compare_36 (by decide) ?_
            exact W.iret (v := (-1)) hx hb hr (fun t ht hW => ⟨(-1), rfl, by first | exact Or.inr ⟨rfl, by omega⟩ | (exfalso; omega), ht⟩) (fun q h => by cases h) dX8_compare_37
      ·
        try simp only [t_100000] at hw_7
        refine W_top (y := .int 0) (by rw [hr_8]) ?_
        refine lv_if_eq (tgt := 36) hx hb dX8_compare_21 (by decide) (fun c_15 => ?_) (fun c_15 => absurd (by decide) c_15)
        refine lv_iconst (v := (-1)) hx hb dX8_compare_36 (by decide) ?_
        exact W.iret (v := (-1)) hx hb hr (fun t ht hW => ⟨(-1), rfl, by first | exact Or.inr ⟨rfl, by omega⟩ | (exfalso; omega), ht⟩) (fun q h => by cases h) dX8_compare_37
    ·
      refine W_top (y := .int 0) (by rw [hr_5]) ?_
      refine lv_if_eq (tgt := 36) hx hb dX8_compare_12 (by decide) (fun c_16 => ?_) (fun c_16 => absurd (by decide) c_16)
      refine lv_iconst (v := (-1)) hx hb dX8_compare_36 (by decide) ?_
      exact W.iret (v := (-1)) hx hb hr (fun t ht hW => ⟨(-1), rfl, by first | exact Or.inr ⟨rfl, by omega⟩ | (exfalso; omega), ht⟩) (fun q h => by cases h) dX8_compare_37
  ·
    refine W_top (y := .int 0) (by rw [hr_2]) ?_
    refine lv_if_eq (tgt := 36) hx hb dX8_compare_4 (by decide) (fun c_17 => ?_) (fun c_17 => absurd (by decide) c_17)
    refine lv_iconst (v := (-1)) hx hb dX8_compare_36 (by decide) ?_
    exact W.iret (v := (-1)) hx hb hr (fun t ht hW => ⟨(-1), rfl, by first | exact Or.inr ⟨rfl, by omega⟩ | (exfalso; omega), ht⟩) (fun q h => by cases h) dX8_compare_37
set_option maxHeartbeats 4000000 in
set_option maxRecDepth 100000 in
theorem c_X8_error (l : Launch) (D : va_G) (E : Nat → Nat) (h0 : Nat) (a : Nat → Nat) (p0 : Int32) (p1 : Int32) (p2 : Int32)  : Met l yX8_error (wl yX8_error cX8_error 5 (some .int)) (RM 2 0 0) (rd_P D E [.ref h0, .int p0, .int p1, .int p2] [(h0, .inr (8, xF a 0)), ((a 1), .inl (E 0, 16, .inl (fun _ => -5)))]) (rd_Q (fun r => (r = (-2000000000) ∧ True))) 0 0 (fun _ => False) := by
  refine Met.ofW (cc := cX8_error) (maxL := 5) (ret := (some .int)) (by decide) rfl ?_
  intro p e s m args below meth c s₁ B hml hv
  obtain ⟨rfl, hP, hK⟩ := hv
  have hx := B.exec
  have hb := B.bytes
  have hr := B.returns
  have hts := atoms_spec (ws := wl yX8_error cX8_error 5 (some .int)) B.pre
  have htb : ∀ w ∈ tb, w.before _ s = true := fun w h => hts w (List.mem_cons_of_mem _ h)
  have hown : s.vm.findClass RX8 = some m.cls := findClass_of_methodNamed B.named
  have hlocks := B.notSynchronized
  have hP : va_P D vwCl [(h0, .inr (8, xF a 0)), ((a 1), .inl (E 0, 16, .inl (fun _ => -5)))] s.heap := hP
  have hl := lv_entry ([.ref h0, .int p0, .int p1, .int p2]) (n := 5) (Nat.le_of_ble_eq_true rfl)
  rw [lg_entry_eq]
  generalize (lg_sl ([.ref h0, .int p0, .int p1, .int p2]) ++ List.replicate (5 - (lg_sl ([.ref h0, .int p0, .int p1, .int p2])).length) Slot.unset).toArray = ls at hl ⊢
  have hl : lv_has ls 5 [(0, .ref h0), (1, .int p0), (2, .int p1), (3, .int p2)] := hl
  have lo_p0 := i_lo p0
  have hi_p0 := i_hi p0
  have lo_p1 := i_lo p1
  have hi_p1 := i_hi p1
  have lo_p2 := i_lo p2
  have hi_p2 := i_hi p2
  refine lv_aload_n hx hb dX8_error_0 rfl (lv_at hl 0 rfl) ?_
  refine lv_iload_n hx hb dX8_error_1 rfl (lv_at hl 1 rfl) ?_
  refine callNV (rest := []) (As := [.int p0]) hx hb hml hown htb hK (c_X8_watchAt l D E h0 a p0 ) ok_X8_watchAt k_369 k_371 ks_1 k_1 k_372 ⟨(Nat.le_of_ble_eq_true rfl), (Nat.le_of_ble_eq_true rfl)⟩ ⟨(Nat.le_of_ble_eq_true rfl), (Nat.le_of_ble_eq_true rfl)⟩ hl.1 (Nat.le_of_ble_eq_true rfl) rfl rfl dX8_error_2 (hP.sub (ws' := [(h0, .inr (8, xF a 0)), ((a 1), .inl (E 0, 16, .inl (fun _ => -5)))]) [0, 1] rfl) rfl rfl 0 rfl ?_
  refine lv_astoreN (lv' := [(4, .null), (0, .ref h0), (1, .int p0), (2, .int p1), (3, .int p2)]) hx hb dX8_error_5 hl (by decide) rfl (fun ls hl => ?_)
  refine lv_aloadN hx hb dX8_error_7 (lv_at hl 0 rfl) ?_
  refine lv_ifnullN (tgt := 26) hx hb dX8_error_9 (by decide) ?_
  refine lv_ldc hx hb hown (htb _ k_386) dX8_error_26 ?_
  exact W.iret (v := (-2000000000)) hx hb hr (fun t ht hW => ⟨(-2000000000), rfl, ⟨rfl, trivial⟩, ht⟩) (fun q h => by cases h) dX8_error_28
set_option maxHeartbeats 4000000 in
set_option maxRecDepth 100000 in
theorem c_X8_rate (l : Launch) (D : va_G) (E : Nat → Nat) (h0 : Nat) (a : Nat → Nat) (p0 : Int32) (p1 : Int32) (p2 : Int32)  : Met l yX8_rate (wl yX8_rate cX8_rate 5 (some .int)) (RM 2 0 0) (rd_P D E [.ref h0, .int p0, .int p1, .int p2] [(h0, .inr (8, xF a 0)), ((a 1), .inl (E 0, 16, .inl (fun _ => -5)))]) (rd_Q (fun r => (r = (-2000000000) ∧ True))) 0 0 (fun _ => False) := by
  refine Met.ofW (cc := cX8_rate) (maxL := 5) (ret := (some .int)) (by decide) rfl ?_
  intro p e s m args below meth c s₁ B hml hv
  obtain ⟨rfl, hP, hK⟩ := hv
  have hx := B.exec
  have hb := B.bytes
  have hr := B.returns
  have hts := atoms_spec (ws := wl yX8_rate cX8_rate 5 (some .int)) B.pre
  have htb : ∀ w ∈ tb, w.before _ s = true := fun w h => hts w (List.mem_cons_of_mem _ h)
  have hown : s.vm.findClass RX8 = some m.cls := findClass_of_methodNamed B.named
  have hlocks := B.notSynchronized
  have hP : va_P D vwCl [(h0, .inr (8, xF a 0)), ((a 1), .inl (E 0, 16, .inl (fun _ => -5)))] s.heap := hP
  have hl := lv_entry ([.ref h0, .int p0, .int p1, .int p2]) (n := 5) (Nat.le_of_ble_eq_true rfl)
  rw [lg_entry_eq]
  generalize (lg_sl ([.ref h0, .int p0, .int p1, .int p2]) ++ List.replicate (5 - (lg_sl ([.ref h0, .int p0, .int p1, .int p2])).length) Slot.unset).toArray = ls at hl ⊢
  have hl : lv_has ls 5 [(0, .ref h0), (1, .int p0), (2, .int p1), (3, .int p2)] := hl
  have lo_p0 := i_lo p0
  have hi_p0 := i_hi p0
  have lo_p1 := i_lo p1
  have hi_p1 := i_hi p1
  have lo_p2 := i_lo p2
  have hi_p2 := i_hi p2
  refine lv_aload_n hx hb dX8_rate_0 rfl (lv_at hl 0 rfl) ?_
  refine lv_iload_n hx hb dX8_rate_1 rfl (lv_at hl 1 rfl) ?_
  refine callNV (rest := []) (As := [.int p0]) hx hb hml hown htb hK (c_X8_watchAt l D E h0 a p0 ) ok_X8_watchAt k_369 k_371 ks_1 k_1 k_372 ⟨(Nat.le_of_ble_eq_true rfl), (Nat.le_of_ble_eq_true rfl)⟩ ⟨(Nat.le_of_ble_eq_true rfl), (Nat.le_of_ble_eq_true rfl)⟩ hl.1 (Nat.le_of_ble_eq_true rfl) rfl rfl dX8_rate_2 (hP.sub (ws' := [(h0, .inr (8, xF a 0)), ((a 1), .inl (E 0, 16, .inl (fun _ => -5)))]) [0, 1] rfl) rfl rfl 0 rfl ?_
  refine lv_astoreN (lv' := [(4, .null), (0, .ref h0), (1, .int p0), (2, .int p1), (3, .int p2)]) hx hb dX8_rate_5 hl (by decide) rfl (fun ls hl => ?_)
  refine lv_aloadN hx hb dX8_rate_7 (lv_at hl 0 rfl) ?_
  refine lv_ifnullN (tgt := 26) hx hb dX8_rate_9 (by decide) ?_
  refine lv_ldc hx hb hown (htb _ k_386) dX8_rate_26 ?_
  exact W.iret (v := (-2000000000)) hx hb hr (fun t ht hW => ⟨(-2000000000), rfl, ⟨rfl, trivial⟩, ht⟩) (fun q h => by cases h) dX8_rate_28
set_option maxHeartbeats 4000000 in
set_option maxRecDepth 100000 in
theorem c_X8_repair (l : Launch) (D : va_G) (E : Nat → Nat) (h0 : Nat) (a : Nat → Nat) (p0 : Int32) (p1 : Int32)  : Met l yX8_repair (wl yX8_repair cX8_repair 3 (some .int)) (RM 3 0 0) (rd_P D E [.ref h0, .int p0, .int p1] [(h0, .inr (8, xF a 0)), ((a 1), .inl (E 0, 16, .inl (fun _ => -5)))]) (rd_Q (fun r => (r = (-2) ∧ ((0 ≤ p0.toInt ∧ p0.toInt ≤ 15) ∧ (0 ≤ p1.toInt ∧ p1.toInt ≤ 0))) ∨ (r = (-1) ∧ ¬ ((0 ≤ p0.toInt ∧ p0.toInt ≤ 15) ∧ (0 ≤ p1.toInt ∧ p1.toInt ≤ 0))))) 0 0 (fun _ => False) := by
  refine Met.ofW (cc := cX8_repair) (maxL := 3) (ret := (some .int)) (by decide) rfl ?_
  intro p e s m args below meth c s₁ B hml hv
  obtain ⟨rfl, hP, hK⟩ := hv
  have hx := B.exec
  have hb := B.bytes
  have hr := B.returns
  have hts := atoms_spec (ws := wl yX8_repair cX8_repair 3 (some .int)) B.pre
  have htb : ∀ w ∈ tb, w.before _ s = true := fun w h => hts w (List.mem_cons_of_mem _ h)
  have hown : s.vm.findClass RX8 = some m.cls := findClass_of_methodNamed B.named
  have hlocks := B.notSynchronized
  have hP : va_P D vwCl [(h0, .inr (8, xF a 0)), ((a 1), .inl (E 0, 16, .inl (fun _ => -5)))] s.heap := hP
  have hl := lv_entry ([.ref h0, .int p0, .int p1]) (n := 3) (Nat.le_of_ble_eq_true rfl)
  rw [lg_entry_eq]
  generalize (lg_sl ([.ref h0, .int p0, .int p1]) ++ List.replicate (3 - (lg_sl ([.ref h0, .int p0, .int p1])).length) Slot.unset).toArray = ls at hl ⊢
  have hl : lv_has ls 3 [(0, .ref h0), (1, .int p0), (2, .int p1)] := hl
  have lo_p0 := i_lo p0
  have hi_p0 := i_hi p0
  have lo_p1 := i_lo p1
  have hi_p1 := i_hi p1
  refine lv_aload_n hx hb dX8_repair_0 rfl (lv_at hl 0 rfl) ?_
  refine lv_iload_n hx hb dX8_repair_1 rfl (lv_at hl 1 rfl) ?_
  refine lv_iload_n hx hb dX8_repair_2 rfl (lv_at hl 2 rfl) ?_
  refine lv_iconst (v := 1) hx hb dX8_repair_3 (by decide) ?_
  refine callRV (rest := []) (As := [.int p0, .int p1, .int 1]) hx hb hml hown htb hK (c_X8_markOn l D E h0 a p0 p1 1 ) ok_X8_markOn k_447 k_449 ks_4 k_1 k_450 ⟨(Nat.le_of_ble_eq_true rfl), (Nat.le_of_ble_eq_true rfl)⟩ ⟨(Nat.le_of_ble_eq_true rfl), (Nat.le_of_ble_eq_true rfl)⟩ hl.1 (Nat.le_of_ble_eq_true rfl) rfl rfl dX8_repair_4 (hP.sub (ws' := [(h0, .inr (8, xF a 0)), ((a 1), .inl (E 0, 16, .inl (fun _ => -5)))]) [0, 1] rfl) rfl rfl 0 rfl (fun r_2 hw_1 => ?_)
  rcases hw_1 with ⟨hr_2, hw_1⟩ | ⟨hr_2, hw_1⟩
  ·
    try simp only [t_1] at hw_1
    refine W_top (y := .int (-2)) (by rw [hr_2]) ?_
    exact W.iret (v := (-2)) hx hb hr (fun t ht hW => ⟨(-2), rfl, by first | exact Or.inl ⟨rfl, by omega⟩ | (exfalso; omega), ht⟩) (fun q h => by cases h) dX8_repair_7
  ·
    try simp only [t_1] at hw_1
    refine W_top (y := .int (-1)) (by rw [hr_2]) ?_
    exact W.iret (v := (-1)) hx hb hr (fun t ht hW => ⟨(-1), rfl, by first | exact Or.inr ⟨rfl, by omega⟩ | (exfalso; omega), ht⟩) (fun q h => by cases h) dX8_repair_7
set_option maxHeartbeats 4000000 in
set_option maxRecDepth 100000 in
theorem c_X8_late (l : Launch) (D : va_G) (E : Nat → Nat) (h0 : Nat) (a : Nat → Nat) (p0 : Int32) (p1 : Int32)  : Met l yX8_late (wl yX8_late cX8_late 3 (some .int)) (RM 3 0 0) (rd_P D E [.ref h0, .int p0, .int p1] [(h0, .inr (8, xF a 0)), ((a 1), .inl (E 0, 16, .inl (fun _ => -5)))]) (rd_Q (fun r => (r = (-2) ∧ ((0 ≤ p0.toInt ∧ p0.toInt ≤ 15) ∧ (0 ≤ p1.toInt ∧ p1.toInt ≤ 0))) ∨ (r = (-1) ∧ ¬ ((0 ≤ p0.toInt ∧ p0.toInt ≤ 15) ∧ (0 ≤ p1.toInt ∧ p1.toInt ≤ 0))))) 0 0 (fun _ => False) := by
  refine Met.ofW (cc := cX8_late) (maxL := 3) (ret := (some .int)) (by decide) rfl ?_
  intro p e s m args below meth c s₁ B hml hv
  obtain ⟨rfl, hP, hK⟩ := hv
  have hx := B.exec
  have hb := B.bytes
  have hr := B.returns
  have hts := atoms_spec (ws := wl yX8_late cX8_late 3 (some .int)) B.pre
  have htb : ∀ w ∈ tb, w.before _ s = true := fun w h => hts w (List.mem_cons_of_mem _ h)
  have hown : s.vm.findClass RX8 = some m.cls := findClass_of_methodNamed B.named
  have hlocks := B.notSynchronized
  have hP : va_P D vwCl [(h0, .inr (8, xF a 0)), ((a 1), .inl (E 0, 16, .inl (fun _ => -5)))] s.heap := hP
  have hl := lv_entry ([.ref h0, .int p0, .int p1]) (n := 3) (Nat.le_of_ble_eq_true rfl)
  rw [lg_entry_eq]
  generalize (lg_sl ([.ref h0, .int p0, .int p1]) ++ List.replicate (3 - (lg_sl ([.ref h0, .int p0, .int p1])).length) Slot.unset).toArray = ls at hl ⊢
  have hl : lv_has ls 3 [(0, .ref h0), (1, .int p0), (2, .int p1)] := hl
  have lo_p0 := i_lo p0
  have hi_p0 := i_hi p0
  have lo_p1 := i_lo p1
  have hi_p1 := i_hi p1
  refine lv_aload_n hx hb dX8_late_0 rfl (lv_at hl 0 rfl) ?_
  refine lv_iload_n hx hb dX8_late_1 rfl (lv_at hl 1 rfl) ?_
  refine lv_iload_n hx hb dX8_late_2 rfl (lv_at hl 2 rfl) ?_
  refine lv_iconst (v := 2) hx hb dX8_late_3 (by decide) ?_
  refine callRV (rest := []) (As := [.int p0, .int p1, .int 2]) hx hb hml hown htb hK (c_X8_markOn l D E h0 a p0 p1 2 ) ok_X8_markOn k_447 k_449 ks_4 k_1 k_450 ⟨(Nat.le_of_ble_eq_true rfl), (Nat.le_of_ble_eq_true rfl)⟩ ⟨(Nat.le_of_ble_eq_true rfl), (Nat.le_of_ble_eq_true rfl)⟩ hl.1 (Nat.le_of_ble_eq_true rfl) rfl rfl dX8_late_4 (hP.sub (ws' := [(h0, .inr (8, xF a 0)), ((a 1), .inl (E 0, 16, .inl (fun _ => -5)))]) [0, 1] rfl) rfl rfl 0 rfl (fun r_2 hw_1 => ?_)
  rcases hw_1 with ⟨hr_2, hw_1⟩ | ⟨hr_2, hw_1⟩
  ·
    try simp only [t_2] at hw_1
    refine W_top (y := .int (-2)) (by rw [hr_2]) ?_
    exact W.iret (v := (-2)) hx hb hr (fun t ht hW => ⟨(-2), rfl, by first | exact Or.inl ⟨rfl, by omega⟩ | (exfalso; omega), ht⟩) (fun q h => by cases h) dX8_late_7
  ·
    try simp only [t_2] at hw_1
    refine W_top (y := .int (-1)) (by rw [hr_2]) ?_
    exact W.iret (v := (-1)) hx hb hr (fun t ht hW => ⟨(-1), rfl, by first | exact Or.inr ⟨rfl, by omega⟩ | (exfalso; omega), ht⟩) (fun q h => by cases h) dX8_late_7
set_option maxHeartbeats 4000000 in
set_option maxRecDepth 100000 in
theorem c_X8_age (l : Launch) (D : va_G) (E : Nat → Nat) (h0 : Nat) (a : Nat → Nat) (p0 : Int32) (p1 : Int32)  : Met l yX8_age (wl yX8_age cX8_age 4 (some .int)) (RM 2 0 0) (rd_P D E [.ref h0, .int p0, .int p1] [(h0, .inr (8, xF a 0)), ((a 1), .inl (E 0, 16, .inl (fun _ => -5)))]) (rd_Q (fun r => (r = (-2) ∧ ((0 ≤ p0.toInt ∧ p0.toInt ≤ 15) ∧ (0 ≤ p1.toInt ∧ p1.toInt ≤ 399))) ∨ (r = (-1) ∧ ¬ ((0 ≤ p0.toInt ∧ p0.toInt ≤ 15) ∧ (0 ≤ p1.toInt ∧ p1.toInt ≤ 399))))) 0 0 (fun _ => False) := by
  refine Met.ofW (cc := cX8_age) (maxL := 4) (ret := (some .int)) (by decide) rfl ?_
  intro p e s m args below meth c s₁ B hml hv
  obtain ⟨rfl, hP, hK⟩ := hv
  have hx := B.exec
  have hb := B.bytes
  have hr := B.returns
  have hts := atoms_spec (ws := wl yX8_age cX8_age 4 (some .int)) B.pre
  have htb : ∀ w ∈ tb, w.before _ s = true := fun w h => hts w (List.mem_cons_of_mem _ h)
  have hown : s.vm.findClass RX8 = some m.cls := findClass_of_methodNamed B.named
  have hlocks := B.notSynchronized
  have hP : va_P D vwCl [(h0, .inr (8, xF a 0)), ((a 1), .inl (E 0, 16, .inl (fun _ => -5)))] s.heap := hP
  have hl := lv_entry ([.ref h0, .int p0, .int p1]) (n := 4) (Nat.le_of_ble_eq_true rfl)
  rw [lg_entry_eq]
  generalize (lg_sl ([.ref h0, .int p0, .int p1]) ++ List.replicate (4 - (lg_sl ([.ref h0, .int p0, .int p1])).length) Slot.unset).toArray = ls at hl ⊢
  have hl : lv_has ls 4 [(0, .ref h0), (1, .int p0), (2, .int p1)] := hl
  have lo_p0 := i_lo p0
  have hi_p0 := i_hi p0
  have lo_p1 := i_lo p1
  have hi_p1 := i_hi p1
  refine lv_iload_n hx hb dX8_age_0 rfl (lv_at hl 1 rfl) ?_
  refine callRS (rest := []) (As := [.int p0]) hx hb hml hown htb hK (c_X8_isPlace l D E p0 ) ok_X8_isPlace k_333 k_334 k_1 k_335 ⟨(Nat.le_of_ble_eq_true rfl), (Nat.le_of_ble_eq_true rfl)⟩ ⟨(Nat.le_of_ble_eq_true rfl), (Nat.le_of_ble_eq_true rfl)⟩ hl.1 (Nat.le_of_ble_eq_true rfl) rfl rfl dX8_age_1 (hP.sub (ws' := ([] : va_W)) [] rfl) (fun r_2 hw_1 => ?_)
  rcases hw_1 with ⟨hr_2, hw_1⟩ | ⟨hr_2, hw_1⟩
  ·
    refine W_top (y := .int 1) (by rw [hr_2]) ?_
    refine lv_if_eq (tgt := 14) hx hb dX8_age_4 (by decide) (fun c_3 => absurd c_3 (by decide)) (fun c_3 => ?_)
    refine lv_iload_n hx hb dX8_age_7 rfl (lv_at hl 2 rfl) ?_
    refine callRS (rest := []) (As := [.int p1]) hx hb hml hown htb hK (c_X8_isDay l D E p1 ) ok_X8_isDay k_323 k_324 k_1 k_325 ⟨(Nat.le_of_ble_eq_true rfl), (Nat.le_of_ble_eq_true rfl)⟩ ⟨(Nat.le_of_ble_eq_true rfl), (Nat.le_of_ble_eq_true rfl)⟩ hl.1 (Nat.le_of_ble_eq_true rfl) rfl rfl dX8_age_8 (hP.sub (ws' := ([] : va_W)) [] rfl) (fun r_5 hw_4 => ?_)
    rcases hw_4 with ⟨hr_5, hw_4⟩ | ⟨hr_5, hw_4⟩
    ·
      refine W_top (y := .int 1) (by rw [hr_5]) ?_
      refine lv_if_ne (tgt := 16) hx hb dX8_age_11 (by decide) (fun c_6 => ?_) (fun c_6 => absurd c_6 (by decide))
      refine lv_aload_n hx hb dX8_age_16 rfl (lv_at hl 0 rfl) ?_
      refine lv_iload_n hx hb dX8_age_17 rfl (lv_at hl 1 rfl) ?_
      refine callNV (rest := []) (As := [.int p0]) hx hb hml hown htb hK (c_X8_watchAt l D E h0 a p0 ) ok_X8_watchAt k_369 k_371 ks_1 k_1 k_372 ⟨(Nat.le_of_ble_eq_true rfl), (Nat.le_of_ble_eq_true rfl)⟩ ⟨(Nat.le_of_ble_eq_true rfl), (Nat.le_of_ble_eq_true rfl)⟩ hl.1 (Nat.le_of_ble_eq_true rfl) rfl rfl dX8_age_18 (hP.sub (ws' := [(h0, .inr (8, xF a 0)), ((a 1), .inl (E 0, 16, .inl (fun _ => -5)))]) [0, 1] rfl) rfl rfl 0 rfl ?_
      refine lv_astore_nN (lv' := [(3, .null), (0, .ref h0), (1, .int p0), (2, .int p1)]) hx hb dX8_age_21 rfl hl (by decide) rfl (fun ls hl => ?_)
      refine lv_aload_nN hx hb dX8_age_22 rfl (lv_at hl 0 rfl) ?_
      refine lv_ifnonnullN hx hb dX8_age_23 ?_
      refine lv_aload_n hx hb dX8_age_26 rfl (lv_at hl 1 rfl) ?_
      refine lv_iload_n hx hb dX8_age_27 rfl (lv_at hl 2 rfl) ?_
      refine callRV (rest := []) (As := [.int p0]) hx hb hml hown htb hK (c_X8_lackAt l D E h0 a p0 ) ok_X8_lackAt k_396 k_398 ks_3 k_1 k_399 ⟨(Nat.le_of_ble_eq_true rfl), (Nat.le_of_ble_eq_true rfl)⟩ ⟨(Nat.le_of_ble_eq_true rfl), (Nat.le_of_ble_eq_true rfl)⟩ hl.1 (Nat.le_of_ble_eq_true rfl) rfl rfl dX8_age_28 (hP.sub (ws' := [(h0, .inr (8, xF a 0)), ((a 1), .inl (E 0, 16, .inl (fun _ => -5)))]) [0, 1] rfl) rfl rfl 0 rfl (fun r_9 hw_8 => ?_)
      rcases hw_8 with ⟨hr_9, hw_8⟩ | ⟨hr_9, hw_8⟩
      ·
        refine W_top (y := .int (-2)) (by rw [hr_9]) ?_
        refine lv_goto (tgt := 39) hx hb dX8_age_31 (by decide) ?_
        exact W.iret (v := (-2)) hx hb hr (fun t ht hW => ⟨(-2), rfl, by first | exact Or.inl ⟨rfl, by omega⟩ | (exfalso; omega), ht⟩) (fun q h => by cases h) dX8_age_39
      ·
        refine W_top (y := .int (-1)) (by rw [hr_9]) ?_
        refine lv_goto (tgt := 39) hx hb dX8_age_31 (by decide) ?_
        exact W.iret (v := (-1)) hx hb hr (fun t ht hW => ⟨(-1), rfl, by first | exact Or.inr ⟨rfl, by omega⟩ | (exfalso; omega), ht⟩) (fun q h => by cases h) dX8_age_39
    ·
      refine W_top (y := .int 0) (by rw [hr_5]) ?_
      refine lv_if_ne (tgt := 16) hx hb dX8_age_11 (by decide) (fun c_10 => absurd (by decide) c_10) (fun c_10 => ?_)
      refine lv_iconst (v := (-1)) hx hb dX8_age_14 (by decide) ?_
      exact W.iret (v := (-1)) hx hb hr (fun t ht hW => ⟨(-1), rfl, by first | exact Or.inr ⟨rfl, by omega⟩ | (exfalso; omega), ht⟩) (fun q h => by cases h) dX8_age_15
  ·
    refine W_top (y := .int 0) (by rw [hr_2]) ?_
    refine lv_if_eq (tgt := 14) hx hb dX8_age_4 (by decide) (fun c_11 => ?_) (fun c_11 => absurd (by decide) c_11)
    refine lv_iconst (v := (-1)) hx hb dX8_age_14 (by decide) ?_
    exact W.iret (v := (-1)) hx hb hr (fun t ht hW => ⟨(-1), rfl, by first | exact Or.inr ⟨rfl, by omega⟩ | (exfalso; omega), ht⟩) (fun q h => by cases h) dX8_age_15
set_option maxHeartbeats 4000000 in
set_option maxRecDepth 100000 in
theorem c_X8_changed (l : Launch) (D : va_G) (E : Nat → Nat) (h0 : Nat) (a : Nat → Nat) (p0 : Int32) (p1 : Int32) (p2 : Int32) (p3 : Int32)  : Met l yX8_changed (wl yX8_changed cX8_changed 8 (some .int)) (RM 2 0 0) (rd_P D E [.ref h0, .int p0, .int p1, .int p2, .int p3] [(h0, .inr (8, xF a 0)), ((a 1), .inl (E 0, 16, .inl (fun _ => -5)))]) (rd_Q (fun r => (r = (-2) ∧ ((0 ≤ p0.toInt ∧ p0.toInt ≤ 15) ∧ (0 ≤ p1.toInt ∧ p2.toInt ≤ 399 ∧ p1.toInt < p2.toInt ∧ p2.toInt - p1.toInt ≤ 60) ∧ (-1 ≤ p3.toInt ∧ p3.toInt ≤ 399))) ∨ (r = (-1) ∧ ¬ ((0 ≤ p0.toInt ∧ p0.toInt ≤ 15) ∧ (0 ≤ p1.toInt ∧ p2.toInt ≤ 399 ∧ p1.toInt < p2.toInt ∧ p2.toInt - p1.toInt ≤ 60) ∧ (-1 ≤ p3.toInt ∧ p3.toInt ≤ 399))))) 0 0 (fun _ => False) := by
  refine Met.ofW (cc := cX8_changed) (maxL := 8) (ret := (some .int)) (by decide) rfl ?_
  intro p e s m args below meth c s₁ B hml hv
  obtain ⟨rfl, hP, hK⟩ := hv
  have hx := B.exec
  have hb := B.bytes
  have hr := B.returns
  have hts := atoms_spec (ws := wl yX8_changed cX8_changed 8 (some .int)) B.pre
  have htb : ∀ w ∈ tb, w.before _ s = true := fun w h => hts w (List.mem_cons_of_mem _ h)
  have hown : s.vm.findClass RX8 = some m.cls := findClass_of_methodNamed B.named
  have hlocks := B.notSynchronized
  have hP : va_P D vwCl [(h0, .inr (8, xF a 0)), ((a 1), .inl (E 0, 16, .inl (fun _ => -5)))] s.heap := hP
  have hl := lv_entry ([.ref h0, .int p0, .int p1, .int p2, .int p3]) (n := 8) (Nat.le_of_ble_eq_true rfl)
  rw [lg_entry_eq]
  generalize (lg_sl ([.ref h0, .int p0, .int p1, .int p2, .int p3]) ++ List.replicate (8 - (lg_sl ([.ref h0, .int p0, .int p1, .int p2, .int p3])).length) Slot.unset).toArray = ls at hl ⊢
  have hl : lv_has ls 8 [(0, .ref h0), (1, .int p0), (2, .int p1), (3, .int p2), (4, .int p3)] := hl
  have lo_p0 := i_lo p0
  have hi_p0 := i_hi p0
  have lo_p1 := i_lo p1
  have hi_p1 := i_hi p1
  have lo_p2 := i_lo p2
  have hi_p2 := i_hi p2
  have lo_p3 := i_lo p3
  have hi_p3 := i_hi p3
  refine lv_iload_n hx hb dX8_changed_0 rfl (lv_at hl 1 rfl) ?_
  refine callRS (rest := []) (As := [.int p0]) hx hb hml hown htb hK (c_X8_isPlace l D E p0 ) ok_X8_isPlace k_333 k_334 k_1 k_335 ⟨(Nat.le_of_ble_eq_true rfl), (Nat.le_of_ble_eq_true rfl)⟩ ⟨(Nat.le_of_ble_eq_true rfl), (Nat.le_of_ble_eq_true rfl)⟩ hl.1 (Nat.le_of_ble_eq_true rfl) rfl rfl dX8_changed_1 (hP.sub (ws' := ([] : va_W)) [] rfl) (fun r_2 hw_1 => ?_)
  rcases hw_1 with ⟨hr_2, hw_1⟩ | ⟨hr_2, hw_1⟩
  ·
    refine W_top (y := .int 1) (by rw [hr_2]) ?_
    refine lv_if_eq (tgt := 23) hx hb dX8_changed_4 (by decide) (fun c_3 => absurd c_3 (by decide)) (fun c_3 => ?_)
    refine lv_iload_n hx hb dX8_changed_7 rfl (lv_at hl 2 rfl) ?_
    refine lv_iload_n hx hb dX8_changed_8 rfl (lv_at hl 3 rfl) ?_
    refine callRS (rest := []) (As := [.int p1, .int p2]) hx hb hml hown htb hK (c_X8_isStretch l D E p1 p2 ) ok_X8_isStretch k_479 k_480 k_1 k_481 ⟨(Nat.le_of_ble_eq_true rfl), (Nat.le_of_ble_eq_true rfl)⟩ ⟨(Nat.le_of_ble_eq_true rfl), (Nat.le_of_ble_eq_true rfl)⟩ hl.1 (Nat.le_of_ble_eq_true rfl) rfl rfl dX8_changed_9 (hP.sub (ws' := ([] : va_W)) [] rfl) (fun r_5 hw_4 => ?_)
    rcases hw_4 with ⟨hr_5, hw_4⟩ | ⟨hr_5, hw_4⟩
    ·
      refine W_top (y := .int 1) (by rw [hr_5]) ?_
      refine lv_if_eq (tgt := 23) hx hb dX8_changed_12 (by decide) (fun c_6 => absurd c_6 (by decide)) (fun c_6 => ?_)
      refine lv_iload hx hb dX8_changed_15 (lv_at hl 4 rfl) ?_
      refine callRS (rest := []) (As := [.int p3]) hx hb hml hown htb hK (c_X8_isKnowledge l D E p3 ) ok_X8_isKnowledge k_412 k_413 k_1 k_414 ⟨(Nat.le_of_ble_eq_true rfl), (Nat.le_of_ble_eq_true rfl)⟩ ⟨(Nat.le_of_ble_eq_true rfl), (Nat.le_of_ble_eq_true rfl)⟩ hl.1 (Nat.le_of_ble_eq_true rfl) rfl rfl dX8_changed_17 (hP.sub (ws' := ([] : va_W)) [] rfl) (fun r_8 hw_7 => ?_)
      rcases hw_7 with ⟨hr_8, hw_7⟩ | ⟨hr_8, hw_7⟩
      ·
        refine W_top (y := .int 1) (by rw [hr_8]) ?_
        refine lv_if_ne (tgt := 25) hx hb dX8_changed_20 (by decide) (fun c_9 => ?_) (fun c_9 => absurd c_9 (by decide))
        refine lv_aload_n hx hb dX8_changed_25 rfl (lv_at hl 0 rfl) ?_
        refine lv_iload_n hx hb dX8_changed_26 rfl (lv_at hl 1 rfl) ?_
        refine callNV (rest := []) (As := [.int p0]) hx hb hml hown htb hK (c_X8_watchAt l D E h0 a p0 ) ok_X8_watchAt k_369 k_371 ks_1 k_1 k_372 ⟨(Nat.le_of_ble_eq_true rfl), (Nat.le_of_ble_eq_true rfl)⟩ ⟨(Nat.le_of_ble_eq_true rfl), (Nat.le_of_ble_eq_true rfl)⟩ hl.1 (Nat.le_of_ble_eq_true rfl) rfl rfl dX8_changed_27 (hP.sub (ws' := [(h0, .inr (8, xF a 0)), ((a 1), .inl (E 0, 16, .inl (fun _ => -5)))]) [0, 1] rfl) rfl rfl 0 rfl ?_
        refine lv_astoreN (lv' := [(5, .null), (0, .ref h0), (1, .int p0), (2, .int p1), (3, .int p2), (4, .int p3)]) hx hb dX8_changed_30 hl (by decide) rfl (fun ls hl => ?_)
        refine lv_aloadN hx hb dX8_changed_32 (lv_at hl 0 rfl) ?_
        refine lv_ifnonnullN hx hb dX8_changed_34 ?_
        refine lv_aload_n hx hb dX8_changed_37 rfl (lv_at hl 1 rfl) ?_
        refine lv_iload_n hx hb dX8_changed_38 rfl (lv_at hl 2 rfl) ?_
        refine callRV (rest := []) (As := [.int p0]) hx hb hml hown htb hK (c_X8_lackAt l D E h0 a p0 ) ok_X8_lackAt k_396 k_398 ks_3 k_1 k_399 ⟨(Nat.le_of_ble_eq_true rfl), (Nat.le_of_ble_eq_true rfl)⟩ ⟨(Nat.le_of_ble_eq_true rfl), (Nat.le_of_ble_eq_true rfl)⟩ hl.1 (Nat.le_of_ble_eq_true rfl) rfl rfl dX8_changed_39 (hP.sub (ws' := [(h0, .inr (8, xF a 0)), ((a 1), .inl (E 0, 16, .inl (fun _ => -5)))]) [0, 1] rfl) rfl rfl 0 rfl (fun r_12 hw_11 => ?_)
        rcases hw_11 with ⟨hr_12, hw_11⟩ | ⟨hr_12, hw_11⟩
        ·
          refine W_top (y := .int (-2)) (by rw [hr_12]) ?_
          exact W.iret (v := (-2)) hx hb hr (fun t ht hW => ⟨(-2), rfl, by first | exact Or.inl ⟨rfl, by omega⟩ | (exfalso; omega), ht⟩) (fun q h => by cases h) dX8_changed_42
        ·
          refine W_top (y := .int (-1)) (by rw [hr_12]) ?_
          exact W.iret (v := (-1)) hx hb hr (fun t ht hW => ⟨(-1), rfl, by first | exact Or.inr ⟨rfl, by omega⟩ | (exfalso; omega), ht⟩) (fun q h => by cases h) dX8_changed_42
      ·
        refine W_top (y := .int 0) (by rw [hr_8]) ?_
        refine lv_if_ne (tgt := 25) hx hb dX8_changed_20 (by decide) (fun c_13 => absurd (by decide) c_13) (fun c_13 => ?_)
        refine lv_iconst (v := (-1)) hx hb dX8_changed_23 (by decide) ?_
        exact W.iret (v := (-1)) hx hb hr (fun t ht hW => ⟨(-1), rfl, by first | exact Or.inr ⟨rfl, by omega⟩ | (exfalso; omega), ht⟩) (fun q h => by cases h) dX8_changed_24
    ·
      refine W_top (y := .int 0) (by rw [hr_5]) ?_
      refine lv_if_eq (tgt := 23) hx hb dX8_changed_12 (by decide) (fun c_14 => ?_) (fun c_14 => absurd (by decide) c_14)
      refine lv_iconst (v := (-1)) hx hb dX8_changed_23 (by decide) ?_
      exact W.iret (v := (-1)) hx hb hr (fun t ht hW => ⟨(-1), rfl, by first | exact Or.inr ⟨rfl, by omega⟩ | (exfalso; omega), ht⟩) (fun q h => by cases h) dX8_changed_24
  ·
    refine W_top (y := .int 0) (by rw [hr_2]) ?_
    refine lv_if_eq (tgt := 23) hx hb dX8_changed_4 (by decide) (fun c_15 => ?_) (fun c_15 => absurd (by decide) c_15)
    refine lv_iconst (v := (-1)) hx hb dX8_changed_23 (by decide) ?_
    exact W.iret (v := (-1)) hx hb hr (fun t ht hW => ⟨(-1), rfl, by first | exact Or.inr ⟨rfl, by omega⟩ | (exfalso; omega), ht⟩) (fun q h => by cases h) dX8_changed_24
set_option maxHeartbeats 4000000 in
set_option maxRecDepth 100000 in
theorem c_X8_law (l : Launch) (D : va_G) (E : Nat → Nat) (h0 : Nat) (a : Nat → Nat) (p0 : Int32) (p1 : Int32) (p2 : Int32)  : Met l yX8_law (wl yX8_law cX8_law 5 (some .int)) (RM 3 0 0) (rd_P D E [.ref h0, .int p0, .int p1, .int p2] [(h0, .inr (8, xF a 0)), ((a 1), .inl (E 0, 16, .inl (fun _ => -5)))]) (rd_Q (fun r => (r = (-2) ∧ ((0 ≤ p0.toInt ∧ p0.toInt ≤ 15) ∧ (0 ≤ p1.toInt ∧ p2.toInt ≤ 399 ∧ p1.toInt < p2.toInt ∧ p2.toInt - p1.toInt ≤ 60))) ∨ (r = (-1) ∧ ¬ ((0 ≤ p0.toInt ∧ p0.toInt ≤ 15) ∧ (0 ≤ p1.toInt ∧ p2.toInt ≤ 399 ∧ p1.toInt < p2.toInt ∧ p2.toInt - p1.toInt ≤ 60))))) 0 0 (fun _ => False) := by
  refine Met.ofW (cc := cX8_law) (maxL := 5) (ret := (some .int)) (by decide) rfl ?_
  intro p e s m args below meth c s₁ B hml hv
  obtain ⟨rfl, hP, hK⟩ := hv
  have hx := B.exec
  have hb := B.bytes
  have hr := B.returns
  have hts := atoms_spec (ws := wl yX8_law cX8_law 5 (some .int)) B.pre
  have htb : ∀ w ∈ tb, w.before _ s = true := fun w h => hts w (List.mem_cons_of_mem _ h)
  have hown : s.vm.findClass RX8 = some m.cls := findClass_of_methodNamed B.named
  have hlocks := B.notSynchronized
  have hP : va_P D vwCl [(h0, .inr (8, xF a 0)), ((a 1), .inl (E 0, 16, .inl (fun _ => -5)))] s.heap := hP
  have hl := lv_entry ([.ref h0, .int p0, .int p1, .int p2]) (n := 5) (Nat.le_of_ble_eq_true rfl)
  rw [lg_entry_eq]
  generalize (lg_sl ([.ref h0, .int p0, .int p1, .int p2]) ++ List.replicate (5 - (lg_sl ([.ref h0, .int p0, .int p1, .int p2])).length) Slot.unset).toArray = ls at hl ⊢
  have hl : lv_has ls 5 [(0, .ref h0), (1, .int p0), (2, .int p1), (3, .int p2)] := hl
  have lo_p0 := i_lo p0
  have hi_p0 := i_hi p0
  have lo_p1 := i_lo p1
  have hi_p1 := i_hi p1
  have lo_p2 := i_lo p2
  have hi_p2 := i_hi p2
  refine lv_aload_n hx hb dX8_law_0 rfl (lv_at hl 0 rfl) ?_
  refine lv_iload_n hx hb dX8_law_1 rfl (lv_at hl 1 rfl) ?_
  refine lv_iload_n hx hb dX8_law_2 rfl (lv_at hl 2 rfl) ?_
  refine lv_iload_n hx hb dX8_law_3 rfl (lv_at hl 3 rfl) ?_
  refine callRV (rest := []) (As := [.int p0, .int p1, .int p2]) hx hb hml hown htb hK (c_X8_refusalOfStretch l D E h0 a p0 p1 p2 ) ok_X8_refusalOfStretch k_486 k_488 ks_5 k_1 k_489 ⟨(Nat.le_of_ble_eq_true rfl), (Nat.le_of_ble_eq_true rfl)⟩ ⟨(Nat.le_of_ble_eq_true rfl), (Nat.le_of_ble_eq_true rfl)⟩ hl.1 (Nat.le_of_ble_eq_true rfl) rfl rfl dX8_law_4 (hP.sub (ws' := [(h0, .inr (8, xF a 0)), ((a 1), .inl (E 0, 16, .inl (fun _ => -5)))]) [0, 1] rfl) rfl rfl 0 rfl (fun r_2 hw_1 => ?_)
  rcases hw_1 with ⟨hr_2, hw_1⟩ | ⟨hr_2, hw_1⟩
  ·
    refine W_top (y := .int (-2)) (by rw [hr_2]) ?_
    refine lv_istore (lv' := [(4, .int (-2)), (0, .ref h0), (1, .int p0), (2, .int p1), (3, .int p2)]) hx hb dX8_law_7 hl (by decide) rfl (fun ls hl => ?_)
    refine lv_iload hx hb dX8_law_9 (lv_at hl 0 rfl) ?_
    refine lv_if_eq (tgt := 17) hx hb dX8_law_11 (by decide) (fun c_3 => absurd c_3 (by decide)) (fun c_3 => ?_)
    refine lv_iload hx hb dX8_law_14 (lv_at hl 0 rfl) ?_
    exact W.iret (v := (-2)) hx hb hr (fun t ht hW => ⟨(-2), rfl, by first | exact Or.inl ⟨rfl, by omega⟩ | (exfalso; omega), ht⟩) (fun q h => by cases h) dX8_law_16
  ·
    refine W_top (y := .int (-1)) (by rw [hr_2]) ?_
    refine lv_istore (lv' := [(4, .int (-1)), (0, .ref h0), (1, .int p0), (2, .int p1), (3, .int p2)]) hx hb dX8_law_7 hl (by decide) rfl (fun ls hl => ?_)
    refine lv_iload hx hb dX8_law_9 (lv_at hl 0 rfl) ?_
    refine lv_if_eq (tgt := 17) hx hb dX8_law_11 (by decide) (fun c_4 => absurd c_4 (by decide)) (fun c_4 => ?_)
    refine lv_iload hx hb dX8_law_14 (lv_at hl 0 rfl) ?_
    exact W.iret (v := (-1)) hx hb hr (fun t ht hW => ⟨(-1), rfl, by first | exact Or.inr ⟨rfl, by omega⟩ | (exfalso; omega), ht⟩) (fun q h => by cases h) dX8_law_16
set_option maxHeartbeats 4000000 in
set_option maxRecDepth 100000 in
theorem c_X8_terms (l : Launch) (D : va_G) (E : Nat → Nat) (h0 : Nat) (a : Nat → Nat) (p0 : Int32) (p1 : Int32) (p2 : Int32)  : Met l yX8_terms (wl yX8_terms cX8_terms 5 (some .int)) (RM 3 0 0) (rd_P D E [.ref h0, .int p0, .int p1, .int p2] [(h0, .inr (8, xF a 0)), ((a 1), .inl (E 0, 16, .inl (fun _ => -5)))]) (rd_Q (fun r => (r = (-2) ∧ ((0 ≤ p0.toInt ∧ p0.toInt ≤ 15) ∧ (0 ≤ p1.toInt ∧ p2.toInt ≤ 399 ∧ p1.toInt < p2.toInt ∧ p2.toInt - p1.toInt ≤ 60))) ∨ (r = (-1) ∧ ¬ ((0 ≤ p0.toInt ∧ p0.toInt ≤ 15) ∧ (0 ≤ p1.toInt ∧ p2.toInt ≤ 399 ∧ p1.toInt < p2.toInt ∧ p2.toInt - p1.toInt ≤ 60))))) 0 0 (fun _ => False) := by
  refine Met.ofW (cc := cX8_terms) (maxL := 5) (ret := (some .int)) (by decide) rfl ?_
  intro p e s m args below meth c s₁ B hml hv
  obtain ⟨rfl, hP, hK⟩ := hv
  have hx := B.exec
  have hb := B.bytes
  have hr := B.returns
  have hts := atoms_spec (ws := wl yX8_terms cX8_terms 5 (some .int)) B.pre
  have htb : ∀ w ∈ tb, w.before _ s = true := fun w h => hts w (List.mem_cons_of_mem _ h)
  have hown : s.vm.findClass RX8 = some m.cls := findClass_of_methodNamed B.named
  have hlocks := B.notSynchronized
  have hP : va_P D vwCl [(h0, .inr (8, xF a 0)), ((a 1), .inl (E 0, 16, .inl (fun _ => -5)))] s.heap := hP
  have hl := lv_entry ([.ref h0, .int p0, .int p1, .int p2]) (n := 5) (Nat.le_of_ble_eq_true rfl)
  rw [lg_entry_eq]
  generalize (lg_sl ([.ref h0, .int p0, .int p1, .int p2]) ++ List.replicate (5 - (lg_sl ([.ref h0, .int p0, .int p1, .int p2])).length) Slot.unset).toArray = ls at hl ⊢
  have hl : lv_has ls 5 [(0, .ref h0), (1, .int p0), (2, .int p1), (3, .int p2)] := hl
  have lo_p0 := i_lo p0
  have hi_p0 := i_hi p0
  have lo_p1 := i_lo p1
  have hi_p1 := i_hi p1
  have lo_p2 := i_lo p2
  have hi_p2 := i_hi p2
  refine lv_aload_n hx hb dX8_terms_0 rfl (lv_at hl 0 rfl) ?_
  refine lv_iload_n hx hb dX8_terms_1 rfl (lv_at hl 1 rfl) ?_
  refine lv_iload_n hx hb dX8_terms_2 rfl (lv_at hl 2 rfl) ?_
  refine lv_iload_n hx hb dX8_terms_3 rfl (lv_at hl 3 rfl) ?_
  refine callRV (rest := []) (As := [.int p0, .int p1, .int p2]) hx hb hml hown htb hK (c_X8_refusalOfStretch l D E h0 a p0 p1 p2 ) ok_X8_refusalOfStretch k_486 k_488 ks_5 k_1 k_489 ⟨(Nat.le_of_ble_eq_true rfl), (Nat.le_of_ble_eq_true rfl)⟩ ⟨(Nat.le_of_ble_eq_true rfl), (Nat.le_of_ble_eq_true rfl)⟩ hl.1 (Nat.le_of_ble_eq_true rfl) rfl rfl dX8_terms_4 (hP.sub (ws' := [(h0, .inr (8, xF a 0)), ((a 1), .inl (E 0, 16, .inl (fun _ => -5)))]) [0, 1] rfl) rfl rfl 0 rfl (fun r_2 hw_1 => ?_)
  rcases hw_1 with ⟨hr_2, hw_1⟩ | ⟨hr_2, hw_1⟩
  ·
    refine W_top (y := .int (-2)) (by rw [hr_2]) ?_
    refine lv_istore (lv' := [(4, .int (-2)), (0, .ref h0), (1, .int p0), (2, .int p1), (3, .int p2)]) hx hb dX8_terms_7 hl (by decide) rfl (fun ls hl => ?_)
    refine lv_iload hx hb dX8_terms_9 (lv_at hl 0 rfl) ?_
    refine lv_if_eq (tgt := 17) hx hb dX8_terms_11 (by decide) (fun c_3 => absurd c_3 (by decide)) (fun c_3 => ?_)
    refine lv_iload hx hb dX8_terms_14 (lv_at hl 0 rfl) ?_
    exact W.iret (v := (-2)) hx hb hr (fun t ht hW => ⟨(-2), rfl, by first | exact Or.inl ⟨rfl, by omega⟩ | (exfalso; omega), ht⟩) (fun q h => by cases h) dX8_terms_16
  ·
    refine W_top (y := .int (-1)) (by rw [hr_2]) ?_
    refine lv_istore (lv' := [(4, .int (-1)), (0, .ref h0), (1, .int p0), (2, .int p1), (3, .int p2)]) hx hb dX8_terms_7 hl (by decide) rfl (fun ls hl => ?_)
    refine lv_iload hx hb dX8_terms_9 (lv_at hl 0 rfl) ?_
    refine lv_if_eq (tgt := 17) hx hb dX8_terms_11 (by decide) (fun c_4 => absurd c_4 (by decide)) (fun c_4 => ?_)
    refine lv_iload hx hb dX8_terms_14 (lv_at hl 0 rfl) ?_
    exact W.iret (v := (-1)) hx hb hr (fun t ht hW => ⟨(-1), rfl, by first | exact Or.inr ⟨rfl, by omega⟩ | (exfalso; omega), ht⟩) (fun q h => by cases h) dX8_terms_16
set_option maxHeartbeats 4000000 in
set_option maxRecDepth 100000 in
theorem c_X8_order (l : Launch) (D : va_G) (E : Nat → Nat) (h0 : Nat) (a : Nat → Nat) (p0 : Int32) (p1 : Int32) (p2 : Int32)  : Met l yX8_order (wl yX8_order cX8_order 8 (some .int)) (RM 3 0 0) (rd_P D E [.ref h0, .int p0, .int p1, .int p2] [(h0, .inr (8, xF a 0)), ((a 1), .inl (E 0, 16, .inl (fun _ => -5)))]) (rd_Q (fun r => (r = (-2) ∧ ((0 ≤ p0.toInt ∧ p0.toInt ≤ 15) ∧ (0 ≤ p1.toInt ∧ p2.toInt ≤ 399 ∧ p1.toInt < p2.toInt ∧ p2.toInt - p1.toInt ≤ 60))) ∨ (r = (-1) ∧ ¬ ((0 ≤ p0.toInt ∧ p0.toInt ≤ 15) ∧ (0 ≤ p1.toInt ∧ p2.toInt ≤ 399 ∧ p1.toInt < p2.toInt ∧ p2.toInt - p1.toInt ≤ 60))))) 0 0 (fun _ => False) := by
  refine Met.ofW (cc := cX8_order) (maxL := 8) (ret := (some .int)) (by decide) rfl ?_
  intro p e s m args below meth c s₁ B hml hv
  obtain ⟨rfl, hP, hK⟩ := hv
  have hx := B.exec
  have hb := B.bytes
  have hr := B.returns
  have hts := atoms_spec (ws := wl yX8_order cX8_order 8 (some .int)) B.pre
  have htb : ∀ w ∈ tb, w.before _ s = true := fun w h => hts w (List.mem_cons_of_mem _ h)
  have hown : s.vm.findClass RX8 = some m.cls := findClass_of_methodNamed B.named
  have hlocks := B.notSynchronized
  have hP : va_P D vwCl [(h0, .inr (8, xF a 0)), ((a 1), .inl (E 0, 16, .inl (fun _ => -5)))] s.heap := hP
  have hl := lv_entry ([.ref h0, .int p0, .int p1, .int p2]) (n := 8) (Nat.le_of_ble_eq_true rfl)
  rw [lg_entry_eq]
  generalize (lg_sl ([.ref h0, .int p0, .int p1, .int p2]) ++ List.replicate (8 - (lg_sl ([.ref h0, .int p0, .int p1, .int p2])).length) Slot.unset).toArray = ls at hl ⊢
  have hl : lv_has ls 8 [(0, .ref h0), (1, .int p0), (2, .int p1), (3, .int p2)] := hl
  have lo_p0 := i_lo p0
  have hi_p0 := i_hi p0
  have lo_p1 := i_lo p1
  have hi_p1 := i_hi p1
  have lo_p2 := i_lo p2
  have hi_p2 := i_hi p2
  refine lv_aload_n hx hb dX8_order_0 rfl (lv_at hl 0 rfl) ?_
  refine lv_iload_n hx hb dX8_order_1 rfl (lv_at hl 1 rfl) ?_
  refine lv_iload_n hx hb dX8_order_2 rfl (lv_at hl 2 rfl) ?_
  refine lv_iload_n hx hb dX8_order_3 rfl (lv_at hl 3 rfl) ?_
  refine callRV (rest := []) (As := [.int p0, .int p1, .int p2]) hx hb hml hown htb hK (c_X8_refusalOfStretch l D E h0 a p0 p1 p2 ) ok_X8_refusalOfStretch k_486 k_488 ks_5 k_1 k_489 ⟨(Nat.le_of_ble_eq_true rfl), (Nat.le_of_ble_eq_true rfl)⟩ ⟨(Nat.le_of_ble_eq_true rfl), (Nat.le_of_ble_eq_true rfl)⟩ hl.1 (Nat.le_of_ble_eq_true rfl) rfl rfl dX8_order_4 (hP.sub (ws' := [(h0, .inr (8, xF a 0)), ((a 1), .inl (E 0, 16, .inl (fun _ => -5)))]) [0, 1] rfl) rfl rfl 0 rfl (fun r_2 hw_1 => ?_)
  rcases hw_1 with ⟨hr_2, hw_1⟩ | ⟨hr_2, hw_1⟩
  ·
    refine W_top (y := .int (-2)) (by rw [hr_2]) ?_
    refine lv_istore (lv' := [(4, .int (-2)), (0, .ref h0), (1, .int p0), (2, .int p1), (3, .int p2)]) hx hb dX8_order_7 hl (by decide) rfl (fun ls hl => ?_)
    refine lv_iload hx hb dX8_order_9 (lv_at hl 0 rfl) ?_
    refine lv_if_eq (tgt := 17) hx hb dX8_order_11 (by decide) (fun c_3 => absurd c_3 (by decide)) (fun c_3 => ?_)
    refine lv_iload hx hb dX8_order_14 (lv_at hl 0 rfl) ?_
    exact W.iret (v := (-2)) hx hb hr (fun t ht hW => ⟨(-2), rfl, by first | exact Or.inl ⟨rfl, by omega⟩ | (exfalso; omega), ht⟩) (fun q h => by cases h) dX8_order_16
  ·
    refine W_top (y := .int (-1)) (by rw [hr_2]) ?_
    refine lv_istore (lv' := [(4, .int (-1)), (0, .ref h0), (1, .int p0), (2, .int p1), (3, .int p2)]) hx hb dX8_order_7 hl (by decide) rfl (fun ls hl => ?_)
    refine lv_iload hx hb dX8_order_9 (lv_at hl 0 rfl) ?_
    refine lv_if_eq (tgt := 17) hx hb dX8_order_11 (by decide) (fun c_4 => absurd c_4 (by decide)) (fun c_4 => ?_)
    refine lv_iload hx hb dX8_order_14 (lv_at hl 0 rfl) ?_
    exact W.iret (v := (-1)) hx hb hr (fun t ht hW => ⟨(-1), rfl, by first | exact Or.inr ⟨rfl, by omega⟩ | (exfalso; omega), ht⟩) (fun q h => by cases h) dX8_order_16
set_option maxHeartbeats 4000000 in
set_option maxRecDepth 100000 in
theorem c_X8_foretold (l : Launch) (D : va_G) (E : Nat → Nat) (h0 : Nat) (a : Nat → Nat) (p0 : Int32) (p1 : Int32) (p2 : Int32) (p3 : Int32) (p4 : Int32)  : Met l yX8_foretold (wl yX8_foretold cX8_foretold 8 (some .int)) (RM 3 0 0) (rd_P D E [.ref h0, .int p0, .int p1, .int p2, .int p3, .int p4] [(h0, .inr (8, xF a 0)), ((a 1), .inl (E 0, 16, .inl (fun _ => -5)))]) (rd_Q (fun r => (r = (-2000000000) ∧ True))) 0 0 (fun _ => False) := by
  refine Met.ofW (cc := cX8_foretold) (maxL := 8) (ret := (some .int)) (by decide) rfl ?_
  intro p e s m args below meth c s₁ B hml hv
  obtain ⟨rfl, hP, hK⟩ := hv
  have hx := B.exec
  have hb := B.bytes
  have hr := B.returns
  have hts := atoms_spec (ws := wl yX8_foretold cX8_foretold 8 (some .int)) B.pre
  have htb : ∀ w ∈ tb, w.before _ s = true := fun w h => hts w (List.mem_cons_of_mem _ h)
  have hown : s.vm.findClass RX8 = some m.cls := findClass_of_methodNamed B.named
  have hlocks := B.notSynchronized
  have hP : va_P D vwCl [(h0, .inr (8, xF a 0)), ((a 1), .inl (E 0, 16, .inl (fun _ => -5)))] s.heap := hP
  have hl := lv_entry ([.ref h0, .int p0, .int p1, .int p2, .int p3, .int p4]) (n := 8) (Nat.le_of_ble_eq_true rfl)
  rw [lg_entry_eq]
  generalize (lg_sl ([.ref h0, .int p0, .int p1, .int p2, .int p3, .int p4]) ++ List.replicate (8 - (lg_sl ([.ref h0, .int p0, .int p1, .int p2, .int p3, .int p4])).length) Slot.unset).toArray = ls at hl ⊢
  have hl : lv_has ls 8 [(0, .ref h0), (1, .int p0), (2, .int p1), (3, .int p2), (4, .int p3), (5, .int p4)] := hl
  have lo_p0 := i_lo p0
  have hi_p0 := i_hi p0
  have lo_p1 := i_lo p1
  have hi_p1 := i_hi p1
  have lo_p2 := i_lo p2
  have hi_p2 := i_hi p2
  have lo_p3 := i_lo p3
  have hi_p3 := i_hi p3
  have lo_p4 := i_lo p4
  have hi_p4 := i_hi p4
  refine lv_aload_n hx hb dX8_foretold_0 rfl (lv_at hl 0 rfl) ?_
  refine lv_iload_n hx hb dX8_foretold_1 rfl (lv_at hl 1 rfl) ?_
  refine lv_iload_n hx hb dX8_foretold_2 rfl (lv_at hl 2 rfl) ?_
  refine lv_iload_n hx hb dX8_foretold_3 rfl (lv_at hl 3 rfl) ?_
  refine callRV (rest := []) (As := [.int p0, .int p1, .int p2]) hx hb hml hown htb hK (c_X8_refusalOfStretch l D E h0 a p0 p1 p2 ) ok_X8_refusalOfStretch k_486 k_488 ks_5 k_1 k_489 ⟨(Nat.le_of_ble_eq_true rfl), (Nat.le_of_ble_eq_true rfl)⟩ ⟨(Nat.le_of_ble_eq_true rfl), (Nat.le_of_ble_eq_true rfl)⟩ hl.1 (Nat.le_of_ble_eq_true rfl) rfl rfl dX8_foretold_4 (hP.sub (ws' := [(h0, .inr (8, xF a 0)), ((a 1), .inl (E 0, 16, .inl (fun _ => -5)))]) [0, 1] rfl) rfl rfl 0 rfl (fun r_2 hw_1 => ?_)
  rcases hw_1 with ⟨hr_2, hw_1⟩ | ⟨hr_2, hw_1⟩
  ·
    refine W_top (y := .int (-2)) (by rw [hr_2]) ?_
    refine lv_if_ne (tgt := 28) hx hb dX8_foretold_7 (by decide) (fun c_3 => ?_) (fun c_3 => absurd c_3 (by decide))
    refine lv_ldc hx hb hown (htb _ k_386) dX8_foretold_28 ?_
    exact W.iret (v := (-2000000000)) hx hb hr (fun t ht hW => ⟨(-2000000000), rfl, ⟨rfl, trivial⟩, ht⟩) (fun q h => by cases h) dX8_foretold_30
  ·
    refine W_top (y := .int (-1)) (by rw [hr_2]) ?_
    refine lv_if_ne (tgt := 28) hx hb dX8_foretold_7 (by decide) (fun c_4 => ?_) (fun c_4 => absurd c_4 (by decide))
    refine lv_ldc hx hb hown (htb _ k_386) dX8_foretold_28 ?_
    exact W.iret (v := (-2000000000)) hx hb hr (fun t ht hW => ⟨(-2000000000), rfl, ⟨rfl, trivial⟩, ht⟩) (fun q h => by cases h) dX8_foretold_30
set_option maxHeartbeats 4000000 in
set_option maxRecDepth 100000 in
theorem c_X8_trial (l : Launch) (D : va_G) (E : Nat → Nat) (h0 : Nat) (a : Nat → Nat) (p0 : Int32) (p1 : Int32) (p2 : Int32)  : Met l yX8_trial (wl yX8_trial cX8_trial 4 (some .int)) (RM 3 0 0) (rd_P D E [.ref h0, .int p0, .int p1, .int p2] [(h0, .inr (8, xF a 0)), ((a 1), .inl (E 0, 16, .inl (fun _ => -5)))]) (rd_Q (fun r => (r = (-2000000000) ∧ True))) 0 0 (fun _ => False) := by
  refine Met.ofW (cc := cX8_trial) (maxL := 4) (ret := (some .int)) (by decide) rfl ?_
  intro p e s m args below meth c s₁ B hml hv
  obtain ⟨rfl, hP, hK⟩ := hv
  have hx := B.exec
  have hb := B.bytes
  have hr := B.returns
  have hts := atoms_spec (ws := wl yX8_trial cX8_trial 4 (some .int)) B.pre
  have htb : ∀ w ∈ tb, w.before _ s = true := fun w h => hts w (List.mem_cons_of_mem _ h)
  have hown : s.vm.findClass RX8 = some m.cls := findClass_of_methodNamed B.named
  have hlocks := B.notSynchronized
  have hP : va_P D vwCl [(h0, .inr (8, xF a 0)), ((a 1), .inl (E 0, 16, .inl (fun _ => -5)))] s.heap := hP
  have hl := lv_entry ([.ref h0, .int p0, .int p1, .int p2]) (n := 4) (Nat.le_of_ble_eq_true rfl)
  rw [lg_entry_eq]
  generalize (lg_sl ([.ref h0, .int p0, .int p1, .int p2]) ++ List.replicate (4 - (lg_sl ([.ref h0, .int p0, .int p1, .int p2])).length) Slot.unset).toArray = ls at hl ⊢
  have hl : lv_has ls 4 [(0, .ref h0), (1, .int p0), (2, .int p1), (3, .int p2)] := hl
  have lo_p0 := i_lo p0
  have hi_p0 := i_hi p0
  have lo_p1 := i_lo p1
  have hi_p1 := i_hi p1
  have lo_p2 := i_lo p2
  have hi_p2 := i_hi p2
  refine lv_aload_n hx hb dX8_trial_0 rfl (lv_at hl 0 rfl) ?_
  refine lv_iload_n hx hb dX8_trial_1 rfl (lv_at hl 1 rfl) ?_
  refine lv_iload_n hx hb dX8_trial_2 rfl (lv_at hl 2 rfl) ?_
  refine lv_iload_n hx hb dX8_trial_3 rfl (lv_at hl 3 rfl) ?_
  refine callRV (rest := []) (As := [.int p0, .int p1, .int p2]) hx hb hml hown htb hK (c_X8_refusalOfStretch l D E h0 a p0 p1 p2 ) ok_X8_refusalOfStretch k_486 k_488 ks_5 k_1 k_489 ⟨(Nat.le_of_ble_eq_true rfl), (Nat.le_of_ble_eq_true rfl)⟩ ⟨(Nat.le_of_ble_eq_true rfl), (Nat.le_of_ble_eq_true rfl)⟩ hl.1 (Nat.le_of_ble_eq_true rfl) rfl rfl dX8_trial_4 (hP.sub (ws' := [(h0, .inr (8, xF a 0)), ((a 1), .inl (E 0, 16, .inl (fun _ => -5)))]) [0, 1] rfl) rfl rfl 0 rfl (fun r_2 hw_1 => ?_)
  rcases hw_1 with ⟨hr_2, hw_1⟩ | ⟨hr_2, hw_1⟩
  ·
    refine W_top (y := .int (-2)) (by rw [hr_2]) ?_
    refine lv_if_ne (tgt := 20) hx hb dX8_trial_7 (by decide) (fun c_3 => ?_) (fun c_3 => absurd c_3 (by decide))
    refine lv_ldc hx hb hown (htb _ k_386) dX8_trial_20 ?_
    exact W.iret (v := (-2000000000)) hx hb hr (fun t ht hW => ⟨(-2000000000), rfl, ⟨rfl, trivial⟩, ht⟩) (fun q h => by cases h) dX8_trial_22
  ·
    refine W_top (y := .int (-1)) (by rw [hr_2]) ?_
    refine lv_if_ne (tgt := 20) hx hb dX8_trial_7 (by decide) (fun c_4 => ?_) (fun c_4 => absurd c_4 (by decide))
    refine lv_ldc hx hb hown (htb _ k_386) dX8_trial_20 ?_
    exact W.iret (v := (-2000000000)) hx hb hr (fun t ht hW => ⟨(-2000000000), rfl, ⟨rfl, trivial⟩, ht⟩) (fun q h => by cases h) dX8_trial_22
set_option maxHeartbeats 4000000 in
set_option maxRecDepth 100000 in
theorem c_X8_jump (l : Launch) (D : va_G) (E : Nat → Nat) (h0 : Nat) (a : Nat → Nat) (p0 : Int32) (p1 : Int32) (p2 : Int32) (p3 : Int32)  : Met l yX8_jump (wl yX8_jump cX8_jump 6 (some .int)) (RM 3 0 0) (rd_P D E [.ref h0, .int p0, .int p1, .int p2, .int p3] [(h0, .inr (8, xF a 0)), ((a 1), .inl (E 0, 16, .inl (fun _ => -5)))]) (rd_Q (fun r => (r = (-2) ∧ ((0 ≤ p3.toInt ∧ p3.toInt ≤ 2000) ∧ (0 ≤ p0.toInt ∧ p0.toInt ≤ 15) ∧ (0 ≤ p1.toInt ∧ p2.toInt ≤ 399 ∧ p1.toInt < p2.toInt ∧ p2.toInt - p1.toInt ≤ 60))) ∨ (r = (-1) ∧ ¬ ((0 ≤ p3.toInt ∧ p3.toInt ≤ 2000) ∧ (0 ≤ p0.toInt ∧ p0.toInt ≤ 15) ∧ (0 ≤ p1.toInt ∧ p2.toInt ≤ 399 ∧ p1.toInt < p2.toInt ∧ p2.toInt - p1.toInt ≤ 60))))) 0 0 (fun _ => False) := by
  refine Met.ofW (cc := cX8_jump) (maxL := 6) (ret := (some .int)) (by decide) rfl ?_
  intro p e s m args below meth c s₁ B hml hv
  obtain ⟨rfl, hP, hK⟩ := hv
  have hx := B.exec
  have hb := B.bytes
  have hr := B.returns
  have hts := atoms_spec (ws := wl yX8_jump cX8_jump 6 (some .int)) B.pre
  have htb : ∀ w ∈ tb, w.before _ s = true := fun w h => hts w (List.mem_cons_of_mem _ h)
  have hown : s.vm.findClass RX8 = some m.cls := findClass_of_methodNamed B.named
  have hlocks := B.notSynchronized
  have hP : va_P D vwCl [(h0, .inr (8, xF a 0)), ((a 1), .inl (E 0, 16, .inl (fun _ => -5)))] s.heap := hP
  have hl := lv_entry ([.ref h0, .int p0, .int p1, .int p2, .int p3]) (n := 6) (Nat.le_of_ble_eq_true rfl)
  rw [lg_entry_eq]
  generalize (lg_sl ([.ref h0, .int p0, .int p1, .int p2, .int p3]) ++ List.replicate (6 - (lg_sl ([.ref h0, .int p0, .int p1, .int p2, .int p3])).length) Slot.unset).toArray = ls at hl ⊢
  have hl : lv_has ls 6 [(0, .ref h0), (1, .int p0), (2, .int p1), (3, .int p2), (4, .int p3)] := hl
  have lo_p0 := i_lo p0
  have hi_p0 := i_hi p0
  have lo_p1 := i_lo p1
  have hi_p1 := i_hi p1
  have lo_p2 := i_lo p2
  have hi_p2 := i_hi p2
  have lo_p3 := i_lo p3
  have hi_p3 := i_hi p3
  refine lv_iload hx hb dX8_jump_0 (lv_at hl 4 rfl) ?_
  refine lv_if_lt (tgt := 13) hx hb dX8_jump_2 (by decide) (fun c_1 => ?_) (fun c_1 => ?_)
  ·
    have ic_1 : p3.toInt < 0 := by first | exact (g_lt rfl t_0).mp c_1 | (have h := mt (g_le t_0 rfl).mpr c_1; omega)
    refine lv_iconst (v := (-1)) hx hb dX8_jump_13 (by decide) ?_
    exact W.iret (v := (-1)) hx hb hr (fun t ht hW => ⟨(-1), rfl, by first | exact Or.inr ⟨rfl, by omega⟩ | (exfalso; omega), ht⟩) (fun q h => by cases h) dX8_jump_14
  ·
    have ic_1 : 0 ≤ p3.toInt := by first | exact (g_le t_0 rfl).mp c_1 | (have h := mt (g_lt rfl t_0).mpr c_1; omega)
    refine lv_iload hx hb dX8_jump_5 (lv_at hl 4 rfl) ?_
    refine lv_sipush (v := 2000) hx hb dX8_jump_7 (by decide) ?_
    refine lv_icmp_le (tgt := 15) hx hb dX8_jump_10 (by decide) (fun c_2 => ?_) (fun c_2 => ?_)
    ·
      have ic_2 : p3.toInt ≤ 2000 := by first | exact (g_le rfl t_2000).mp c_2 | (have h := mt (g_lt t_2000 rfl).mpr c_2; omega)
      refine lv_aload_n hx hb dX8_jump_15 rfl (lv_at hl 0 rfl) ?_
      refine lv_iload_n hx hb dX8_jump_16 rfl (lv_at hl 1 rfl) ?_
      refine lv_iload_n hx hb dX8_jump_17 rfl (lv_at hl 2 rfl) ?_
      refine lv_iload_n hx hb dX8_jump_18 rfl (lv_at hl 3 rfl) ?_
      refine callRV (rest := []) (As := [.int p0, .int p1, .int p2]) hx hb hml hown htb hK (c_X8_refusalOfStretch l D E h0 a p0 p1 p2 ) ok_X8_refusalOfStretch k_486 k_488 ks_5 k_1 k_489 ⟨(Nat.le_of_ble_eq_true rfl), (Nat.le_of_ble_eq_true rfl)⟩ ⟨(Nat.le_of_ble_eq_true rfl), (Nat.le_of_ble_eq_true rfl)⟩ hl.1 (Nat.le_of_ble_eq_true rfl) rfl rfl dX8_jump_19 (hP.sub (ws' := [(h0, .inr (8, xF a 0)), ((a 1), .inl (E 0, 16, .inl (fun _ => -5)))]) [0, 1] rfl) rfl rfl 0 rfl (fun r_4 hw_3 => ?_)
      rcases hw_3 with ⟨hr_4, hw_3⟩ | ⟨hr_4, hw_3⟩
      ·
        refine W_top (y := .int (-2)) (by rw [hr_4]) ?_
        refine lv_istore (lv' := [(5, .int (-2)), (0, .ref h0), (1, .int p0), (2, .int p1), (3, .int p2), (4, .int p3)]) hx hb dX8_jump_22 hl (by decide) rfl (fun ls hl => ?_)
        refine lv_iload hx hb dX8_jump_24 (lv_at hl 0 rfl) ?_
        refine lv_if_eq (tgt := 32) hx hb dX8_jump_26 (by decide) (fun c_5 => absurd c_5 (by decide)) (fun c_5 => ?_)
        refine lv_iload hx hb dX8_jump_29 (lv_at hl 0 rfl) ?_
        exact W.iret (v := (-2)) hx hb hr (fun t ht hW => ⟨(-2), rfl, by first | exact Or.inl ⟨rfl, by omega⟩ | (exfalso; omega), ht⟩) (fun q h => by cases h) dX8_jump_31
      ·
        refine W_top (y := .int (-1)) (by rw [hr_4]) ?_
        refine lv_istore (lv' := [(5, .int (-1)), (0, .ref h0), (1, .int p0), (2, .int p1), (3, .int p2), (4, .int p3)]) hx hb dX8_jump_22 hl (by decide) rfl (fun ls hl => ?_)
        refine lv_iload hx hb dX8_jump_24 (lv_at hl 0 rfl) ?_
        refine lv_if_eq (tgt := 32) hx hb dX8_jump_26 (by decide) (fun c_6 => absurd c_6 (by decide)) (fun c_6 => ?_)
        refine lv_iload hx hb dX8_jump_29 (lv_at hl 0 rfl) ?_
        exact W.iret (v := (-1)) hx hb hr (fun t ht hW => ⟨(-1), rfl, by first | exact Or.inr ⟨rfl, by omega⟩ | (exfalso; omega), ht⟩) (fun q h => by cases h) dX8_jump_31
    ·
      have ic_2 : 2000 < p3.toInt := by first | exact (g_lt t_2000 rfl).mp c_2 | (have h := mt (g_le rfl t_2000).mpr c_2; omega)
      refine lv_iconst (v := (-1)) hx hb dX8_jump_13 (by decide) ?_
      exact W.iret (v := (-1)) hx hb hr (fun t ht hW => ⟨(-1), rfl, by first | exact Or.inr ⟨rfl, by omega⟩ | (exfalso; omega), ht⟩) (fun q h => by cases h) dX8_jump_14
set_option maxHeartbeats 4000000 in
set_option maxRecDepth 100000 in
theorem c_X8_sail (l : Launch) (D : va_G) (E : Nat → Nat) (h0 : Nat) (a : Nat → Nat) (p0 : Int32) (p1 : Int32) (p2 : Int32) (p3 : Int32)  : Met l yX8_sail (wl yX8_sail cX8_sail 7 (some .int)) (RM 3 0 0) (rd_P D E [.ref h0, .int p0, .int p1, .int p2, .int p3] [(h0, .inr (8, xF a 0)), ((a 1), .inl (E 0, 16, .inl (fun _ => -5)))]) (rd_Q (fun r => (r = (-2) ∧ ((0 ≤ p0.toInt ∧ p0.toInt ≤ 4) ∧ (0 ≤ p1.toInt ∧ p1.toInt ≤ 15) ∧ (0 ≤ p2.toInt ∧ p2.toInt ≤ 15) ∧ (0 ≤ p3.toInt ∧ p3.toInt ≤ 15) ∧ p1.toInt ≠ p2.toInt ∧ p1.toInt ≠ p3.toInt ∧ p2.toInt ≠ p3.toInt)) ∨ (r = (-1) ∧ ¬ ((0 ≤ p0.toInt ∧ p0.toInt ≤ 4) ∧ (0 ≤ p1.toInt ∧ p1.toInt ≤ 15) ∧ (0 ≤ p2.toInt ∧ p2.toInt ≤ 15) ∧ (0 ≤ p3.toInt ∧ p3.toInt ≤ 15) ∧ p1.toInt ≠ p2.toInt ∧ p1.toInt ≠ p3.toInt ∧ p2.toInt ≠ p3.toInt)))) 0 0 (fun _ => False) := by
  refine Met.ofW (cc := cX8_sail) (maxL := 7) (ret := (some .int)) (by decide) rfl ?_
  intro p e s m args below meth c s₁ B hml hv
  obtain ⟨rfl, hP, hK⟩ := hv
  have hx := B.exec
  have hb := B.bytes
  have hr := B.returns
  have hts := atoms_spec (ws := wl yX8_sail cX8_sail 7 (some .int)) B.pre
  have htb : ∀ w ∈ tb, w.before _ s = true := fun w h => hts w (List.mem_cons_of_mem _ h)
  have hown : s.vm.findClass RX8 = some m.cls := findClass_of_methodNamed B.named
  have hlocks := B.notSynchronized
  have hP : va_P D vwCl [(h0, .inr (8, xF a 0)), ((a 1), .inl (E 0, 16, .inl (fun _ => -5)))] s.heap := hP
  have hl := lv_entry ([.ref h0, .int p0, .int p1, .int p2, .int p3]) (n := 7) (Nat.le_of_ble_eq_true rfl)
  rw [lg_entry_eq]
  generalize (lg_sl ([.ref h0, .int p0, .int p1, .int p2, .int p3]) ++ List.replicate (7 - (lg_sl ([.ref h0, .int p0, .int p1, .int p2, .int p3])).length) Slot.unset).toArray = ls at hl ⊢
  have hl : lv_has ls 7 [(0, .ref h0), (1, .int p0), (2, .int p1), (3, .int p2), (4, .int p3)] := hl
  have lo_p0 := i_lo p0
  have hi_p0 := i_hi p0
  have lo_p1 := i_lo p1
  have hi_p1 := i_hi p1
  have lo_p2 := i_lo p2
  have hi_p2 := i_hi p2
  have lo_p3 := i_lo p3
  have hi_p3 := i_hi p3
  refine lv_iload_n hx hb dX8_sail_0 rfl (lv_at hl 1 rfl) ?_
  refine callRS (rest := []) (As := [.int p0]) hx hb hml hown htb hK (c_X8_isShip l D E p0 ) ok_X8_isShip k_773 k_774 k_1 k_775 ⟨(Nat.le_of_ble_eq_true rfl), (Nat.le_of_ble_eq_true rfl)⟩ ⟨(Nat.le_of_ble_eq_true rfl), (Nat.le_of_ble_eq_true rfl)⟩ hl.1 (Nat.le_of_ble_eq_true rfl) rfl rfl dX8_sail_1 (hP.sub (ws' := ([] : va_W)) [] rfl) (fun r_2 hw_1 => ?_)
  rcases hw_1 with ⟨hr_2, hw_1⟩ | ⟨hr_2, hw_1⟩
  ·
    refine W_top (y := .int 1) (by rw [hr_2]) ?_
    refine lv_if_eq (tgt := 46) hx hb dX8_sail_4 (by decide) (fun c_3 => absurd c_3 (by decide)) (fun c_3 => ?_)
    refine lv_iload_n hx hb dX8_sail_7 rfl (lv_at hl 2 rfl) ?_
    refine callRS (rest := []) (As := [.int p1]) hx hb hml hown htb hK (c_X8_isPlace l D E p1 ) ok_X8_isPlace k_333 k_334 k_1 k_335 ⟨(Nat.le_of_ble_eq_true rfl), (Nat.le_of_ble_eq_true rfl)⟩ ⟨(Nat.le_of_ble_eq_true rfl), (Nat.le_of_ble_eq_true rfl)⟩ hl.1 (Nat.le_of_ble_eq_true rfl) rfl rfl dX8_sail_8 (hP.sub (ws' := ([] : va_W)) [] rfl) (fun r_5 hw_4 => ?_)
    rcases hw_4 with ⟨hr_5, hw_4⟩ | ⟨hr_5, hw_4⟩
    ·
      refine W_top (y := .int 1) (by rw [hr_5]) ?_
      refine lv_if_eq (tgt := 46) hx hb dX8_sail_11 (by decide) (fun c_6 => absurd c_6 (by decide)) (fun c_6 => ?_)
      refine lv_iload_n hx hb dX8_sail_14 rfl (lv_at hl 3 rfl) ?_
      refine callRS (rest := []) (As := [.int p2]) hx hb hml hown htb hK (c_X8_isPlace l D E p2 ) ok_X8_isPlace k_333 k_334 k_1 k_335 ⟨(Nat.le_of_ble_eq_true rfl), (Nat.le_of_ble_eq_true rfl)⟩ ⟨(Nat.le_of_ble_eq_true rfl), (Nat.le_of_ble_eq_true rfl)⟩ hl.1 (Nat.le_of_ble_eq_true rfl) rfl rfl dX8_sail_15 (hP.sub (ws' := ([] : va_W)) [] rfl) (fun r_8 hw_7 => ?_)
      rcases hw_7 with ⟨hr_8, hw_7⟩ | ⟨hr_8, hw_7⟩
      ·
        refine W_top (y := .int 1) (by rw [hr_8]) ?_
        refine lv_if_eq (tgt := 46) hx hb dX8_sail_18 (by decide) (fun c_9 => absurd c_9 (by decide)) (fun c_9 => ?_)
        refine lv_iload hx hb dX8_sail_21 (lv_at hl 4 rfl) ?_
        refine callRS (rest := []) (As := [.int p3]) hx hb hml hown htb hK (c_X8_isPlace l D E p3 ) ok_X8_isPlace k_333 k_334 k_1 k_335 ⟨(Nat.le_of_ble_eq_true rfl), (Nat.le_of_ble_eq_true rfl)⟩ ⟨(Nat.le_of_ble_eq_true rfl), (Nat.le_of_ble_eq_true rfl)⟩ hl.1 (Nat.le_of_ble_eq_true rfl) rfl rfl dX8_sail_23 (hP.sub (ws' := ([] : va_W)) [] rfl) (fun r_11 hw_10 => ?_)
        rcases hw_10 with ⟨hr_11, hw_10⟩ | ⟨hr_11, hw_10⟩
        ·
          refine W_top (y := .int 1) (by rw [hr_11]) ?_
          refine lv_if_eq (tgt := 46) hx hb dX8_sail_26 (by decide) (fun c_12 => absurd c_12 (by decide)) (fun c_12 => ?_)
          refine lv_iload_n hx hb dX8_sail_29 rfl (lv_at hl 2 rfl) ?_
          refine lv_iload_n hx hb dX8_sail_30 rfl (lv_at hl 3 rfl) ?_
          refine lv_icmp_eq (tgt := 46) hx hb dX8_sail_31 (by decide) (fun c_13 => ?_) (fun c_13 => ?_)
          ·
            have ic_13 : p1.toInt = p2.toInt := (g_eq rfl rfl).mp c_13
            refine lv_iconst (v := (-1)) hx hb dX8_sail_46 (by decide) ?_
            exact W.iret (v := (-1)) hx hb hr (fun t ht hW => ⟨(-1), rfl, by first | exact Or.inr ⟨rfl, by omega⟩ | (exfalso; omega), ht⟩) (fun q h => by cases h) dX8_sail_47
          ·
            have ic_13 : p1.toInt ≠ p2.toInt := mt (g_eq rfl rfl).mpr c_13
            refine lv_iload_n hx hb dX8_sail_34 rfl (lv_at hl 2 rfl) ?_
            refine lv_iload hx hb dX8_sail_35 (lv_at hl 4 rfl) ?_
            refine lv_icmp_eq (tgt := 46) hx hb dX8_sail_37 (by decide) (fun c_14 => ?_) (fun c_14 => ?_)
            ·
              have ic_14 : p1.toInt = p3.toInt := (g_eq rfl rfl).mp c_14
              refine lv_iconst (v := (-1)) hx hb dX8_sail_46 (by decide) ?_
              exact W.iret (v := (-1)) hx hb hr (fun t ht hW => ⟨(-1), rfl, by first | exact Or.inr ⟨rfl, by omega⟩ | (exfalso; omega), ht⟩) (fun q h => by cases h) dX8_sail_47
            ·
              have ic_14 : p1.toInt ≠ p3.toInt := mt (g_eq rfl rfl).mpr c_14
              refine lv_iload_n hx hb dX8_sail_40 rfl (lv_at hl 3 rfl) ?_
              refine lv_iload hx hb dX8_sail_41 (lv_at hl 4 rfl) ?_
              refine lv_icmp_ne (tgt := 48) hx hb dX8_sail_43 (by decide) (fun c_15 => ?_) (fun c_15 => ?_)
              ·
                have ic_15 : p2.toInt ≠ p3.toInt := mt (g_eq rfl rfl).mpr c_15
                refine lv_aload_n hx hb dX8_sail_48 rfl (lv_at hl 0 rfl) ?_
                refine lv_iload_n hx hb dX8_sail_49 rfl (lv_at hl 2 rfl) ?_
                refine lv_iload_n hx hb dX8_sail_50 rfl (lv_at hl 3 rfl) ?_
                refine lv_iload hx hb dX8_sail_51 (lv_at hl 4 rfl) ?_
                refine callRV (rest := []) (As := [.int p1, .int p2, .int p3]) hx hb hml hown htb hK (c_X8_firstLack l D E h0 a p1 p2 p3 ) ok_X8_firstLack k_776 k_778 ks_27 k_1 k_779 ⟨(Nat.le_of_ble_eq_true rfl), (Nat.le_of_ble_eq_true rfl)⟩ ⟨(Nat.le_of_ble_eq_true rfl), (Nat.le_of_ble_eq_true rfl)⟩ hl.1 (Nat.le_of_ble_eq_true rfl) rfl rfl dX8_sail_53 (hP.sub (ws' := [(h0, .inr (8, xF a 0)), ((a 1), .inl (E 0, 16, .inl (fun _ => -5)))]) [0, 1] rfl) rfl rfl 0 rfl (fun r_17 hw_16 => ?_)
                rcases hw_16 with ⟨hr_17, hw_16⟩ | ⟨hr_17, hw_16⟩
                ·
                  refine W_top (y := .int (-2)) (by rw [hr_17]) ?_
                  refine lv_istore (lv' := [(5, .int (-2)), (0, .ref h0), (1, .int p0), (2, .int p1), (3, .int p2), (4, .int p3)]) hx hb dX8_sail_56 hl (by decide) rfl (fun ls hl => ?_)
                  refine lv_iload hx hb dX8_sail_58 (lv_at hl 0 rfl) ?_
                  refine lv_if_eq (tgt := 66) hx hb dX8_sail_60 (by decide) (fun c_18 => absurd c_18 (by decide)) (fun c_18 => ?_)
                  refine lv_iload hx hb dX8_sail_63 (lv_at hl 0 rfl) ?_
                  exact W.iret (v := (-2)) hx hb hr (fun t ht hW => ⟨(-2), rfl, by first | exact Or.inl ⟨rfl, by omega⟩ | (exfalso; omega), ht⟩) (fun q h => by cases h) dX8_sail_65
                ·
                  refine W_top (y := .int (-1)) (by rw [hr_17]) ?_
                  refine lv_istore (lv' := [(5, .int (-1)), (0, .ref h0), (1, .int p0), (2, .int p1), (3, .int p2), (4, .int p3)]) hx hb dX8_sail_56 hl (by decide) rfl (fun ls hl => ?_)
                  refine lv_iload hx hb dX8_sail_58 (lv_at hl 0 rfl) ?_
                  refine lv_if_eq (tgt := 66) hx hb dX8_sail_60 (by decide) (fun c_19 => absurd c_19 (by decide)) (fun c_19 => ?_)
                  refine lv_iload hx hb dX8_sail_63 (lv_at hl 0 rfl) ?_
                  exact W.iret (v := (-1)) hx hb hr (fun t ht hW => ⟨(-1), rfl, by first | exact Or.inr ⟨rfl, by omega⟩ | (exfalso; omega), ht⟩) (fun q h => by cases h) dX8_sail_65
              ·
                have ic_15 : p2.toInt = p3.toInt := (g_eq rfl rfl).mp c_15
                refine lv_iconst (v := (-1)) hx hb dX8_sail_46 (by decide) ?_
                exact W.iret (v := (-1)) hx hb hr (fun t ht hW => ⟨(-1), rfl, by first | exact Or.inr ⟨rfl, by omega⟩ | (exfalso; omega), ht⟩) (fun q h => by cases h) dX8_sail_47
        ·
          refine W_top (y := .int 0) (by rw [hr_11]) ?_
          refine lv_if_eq (tgt := 46) hx hb dX8_sail_26 (by decide) (fun c_20 => ?_) (fun c_20 => absurd (by decide) c_20)
          refine lv_iconst (v := (-1)) hx hb dX8_sail_46 (by decide) ?_
          exact W.iret (v := (-1)) hx hb hr (fun t ht hW => ⟨(-1), rfl, by first | exact Or.inr ⟨rfl, by omega⟩ | (exfalso; omega), ht⟩) (fun q h => by cases h) dX8_sail_47
      ·
        refine W_top (y := .int 0) (by rw [hr_8]) ?_
        refine lv_if_eq (tgt := 46) hx hb dX8_sail_18 (by decide) (fun c_21 => ?_) (fun c_21 => absurd (by decide) c_21)
        refine lv_iconst (v := (-1)) hx hb dX8_sail_46 (by decide) ?_
        exact W.iret (v := (-1)) hx hb hr (fun t ht hW => ⟨(-1), rfl, by first | exact Or.inr ⟨rfl, by omega⟩ | (exfalso; omega), ht⟩) (fun q h => by cases h) dX8_sail_47
    ·
      refine W_top (y := .int 0) (by rw [hr_5]) ?_
      refine lv_if_eq (tgt := 46) hx hb dX8_sail_11 (by decide) (fun c_22 => ?_) (fun c_22 => absurd (by decide) c_22)
      refine lv_iconst (v := (-1)) hx hb dX8_sail_46 (by decide) ?_
      exact W.iret (v := (-1)) hx hb hr (fun t ht hW => ⟨(-1), rfl, by first | exact Or.inr ⟨rfl, by omega⟩ | (exfalso; omega), ht⟩) (fun q h => by cases h) dX8_sail_47
  ·
    refine W_top (y := .int 0) (by rw [hr_2]) ?_
    refine lv_if_eq (tgt := 46) hx hb dX8_sail_4 (by decide) (fun c_23 => ?_) (fun c_23 => absurd (by decide) c_23)
    refine lv_iconst (v := (-1)) hx hb dX8_sail_46 (by decide) ?_
    exact W.iret (v := (-1)) hx hb hr (fun t ht hW => ⟨(-1), rfl, by first | exact Or.inr ⟨rfl, by omega⟩ | (exfalso; omega), ht⟩) (fun q h => by cases h) dX8_sail_47
set_option maxHeartbeats 4000000 in
set_option maxRecDepth 100000 in
theorem c_X8_lend (l : Launch) (D : va_G) (E : Nat → Nat) (h0 : Nat) (a : Nat → Nat) (p0 : Int32) (p1 : Int32)  : Met l yX8_lend (wl yX8_lend cX8_lend 4 (some .int)) (RM 2 0 0) (rd_P D E [.ref h0, .int p0, .int p1] [(h0, .inr (8, xF a 0)), ((a 1), .inl (E 0, 16, .inl (fun _ => -5)))]) (rd_Q (fun r => (r = (-2) ∧ ((0 ≤ p0.toInt ∧ p0.toInt ≤ 15) ∧ (0 ≤ p1.toInt ∧ p1.toInt ≤ 19))) ∨ (r = (-1) ∧ ¬ ((0 ≤ p0.toInt ∧ p0.toInt ≤ 15) ∧ (0 ≤ p1.toInt ∧ p1.toInt ≤ 19))))) 0 0 (fun _ => False) := by
  refine Met.ofW (cc := cX8_lend) (maxL := 4) (ret := (some .int)) (by decide) rfl ?_
  intro p e s m args below meth c s₁ B hml hv
  obtain ⟨rfl, hP, hK⟩ := hv
  have hx := B.exec
  have hb := B.bytes
  have hr := B.returns
  have hts := atoms_spec (ws := wl yX8_lend cX8_lend 4 (some .int)) B.pre
  have htb : ∀ w ∈ tb, w.before _ s = true := fun w h => hts w (List.mem_cons_of_mem _ h)
  have hown : s.vm.findClass RX8 = some m.cls := findClass_of_methodNamed B.named
  have hlocks := B.notSynchronized
  have hP : va_P D vwCl [(h0, .inr (8, xF a 0)), ((a 1), .inl (E 0, 16, .inl (fun _ => -5)))] s.heap := hP
  have hl := lv_entry ([.ref h0, .int p0, .int p1]) (n := 4) (Nat.le_of_ble_eq_true rfl)
  rw [lg_entry_eq]
  generalize (lg_sl ([.ref h0, .int p0, .int p1]) ++ List.replicate (4 - (lg_sl ([.ref h0, .int p0, .int p1])).length) Slot.unset).toArray = ls at hl ⊢
  have hl : lv_has ls 4 [(0, .ref h0), (1, .int p0), (2, .int p1)] := hl
  have lo_p0 := i_lo p0
  have hi_p0 := i_hi p0
  have lo_p1 := i_lo p1
  have hi_p1 := i_hi p1
  refine lv_iload_n hx hb dX8_lend_0 rfl (lv_at hl 1 rfl) ?_
  refine callRS (rest := []) (As := [.int p0]) hx hb hml hown htb hK (c_X8_isPlace l D E p0 ) ok_X8_isPlace k_333 k_334 k_1 k_335 ⟨(Nat.le_of_ble_eq_true rfl), (Nat.le_of_ble_eq_true rfl)⟩ ⟨(Nat.le_of_ble_eq_true rfl), (Nat.le_of_ble_eq_true rfl)⟩ hl.1 (Nat.le_of_ble_eq_true rfl) rfl rfl dX8_lend_1 (hP.sub (ws' := ([] : va_W)) [] rfl) (fun r_2 hw_1 => ?_)
  rcases hw_1 with ⟨hr_2, hw_1⟩ | ⟨hr_2, hw_1⟩
  ·
    refine W_top (y := .int 1) (by rw [hr_2]) ?_
    refine lv_if_eq (tgt := 17) hx hb dX8_lend_4 (by decide) (fun c_3 => absurd c_3 (by decide)) (fun c_3 => ?_)
    refine lv_iload_n hx hb dX8_lend_7 rfl (lv_at hl 2 rfl) ?_
    refine lv_if_lt (tgt := 17) hx hb dX8_lend_8 (by decide) (fun c_4 => ?_) (fun c_4 => ?_)
    ·
      have ic_4 : p1.toInt < 0 := by first | exact (g_lt rfl t_0).mp c_4 | (have h := mt (g_le t_0 rfl).mpr c_4; omega)
      refine lv_iconst (v := (-1)) hx hb dX8_lend_17 (by decide) ?_
      exact W.iret (v := (-1)) hx hb hr (fun t ht hW => ⟨(-1), rfl, by first | exact Or.inr ⟨rfl, by omega⟩ | (exfalso; omega), ht⟩) (fun q h => by cases h) dX8_lend_18
    ·
      have ic_4 : 0 ≤ p1.toInt := by first | exact (g_le t_0 rfl).mp c_4 | (have h := mt (g_lt rfl t_0).mpr c_4; omega)
      refine lv_iload_n hx hb dX8_lend_11 rfl (lv_at hl 2 rfl) ?_
      refine lv_bipush (v := 20) hx hb dX8_lend_12 (by decide) ?_
      refine lv_icmp_lt (tgt := 19) hx hb dX8_lend_14 (by decide) (fun c_5 => ?_) (fun c_5 => ?_)
      ·
        have ic_5 : p1.toInt < 20 := by first | exact (g_lt rfl t_20).mp c_5 | (have h := mt (g_le t_20 rfl).mpr c_5; omega)
        refine lv_aload_n hx hb dX8_lend_19 rfl (lv_at hl 0 rfl) ?_
        refine lv_iload_n hx hb dX8_lend_20 rfl (lv_at hl 1 rfl) ?_
        refine callNV (rest := []) (As := [.int p0]) hx hb hml hown htb hK (c_X8_watchAt l D E h0 a p0 ) ok_X8_watchAt k_369 k_371 ks_1 k_1 k_372 ⟨(Nat.le_of_ble_eq_true rfl), (Nat.le_of_ble_eq_true rfl)⟩ ⟨(Nat.le_of_ble_eq_true rfl), (Nat.le_of_ble_eq_true rfl)⟩ hl.1 (Nat.le_of_ble_eq_true rfl) rfl rfl dX8_lend_21 (hP.sub (ws' := [(h0, .inr (8, xF a 0)), ((a 1), .inl (E 0, 16, .inl (fun _ => -5)))]) [0, 1] rfl) rfl rfl 0 rfl ?_
        refine lv_astore_nN (lv' := [(3, .null), (0, .ref h0), (1, .int p0), (2, .int p1)]) hx hb dX8_lend_24 rfl hl (by decide) rfl (fun ls hl => ?_)
        refine lv_aload_nN hx hb dX8_lend_25 rfl (lv_at hl 0 rfl) ?_
        refine lv_ifnonnullN hx hb dX8_lend_26 ?_
        refine lv_aload_n hx hb dX8_lend_29 rfl (lv_at hl 1 rfl) ?_
        refine lv_iload_n hx hb dX8_lend_30 rfl (lv_at hl 2 rfl) ?_
        refine callRV (rest := []) (As := [.int p0]) hx hb hml hown htb hK (c_X8_lackAt l D E h0 a p0 ) ok_X8_lackAt k_396 k_398 ks_3 k_1 k_399 ⟨(Nat.le_of_ble_eq_true rfl), (Nat.le_of_ble_eq_true rfl)⟩ ⟨(Nat.le_of_ble_eq_true rfl), (Nat.le_of_ble_eq_true rfl)⟩ hl.1 (Nat.le_of_ble_eq_true rfl) rfl rfl dX8_lend_31 (hP.sub (ws' := [(h0, .inr (8, xF a 0)), ((a 1), .inl (E 0, 16, .inl (fun _ => -5)))]) [0, 1] rfl) rfl rfl 0 rfl (fun r_8 hw_7 => ?_)
        rcases hw_7 with ⟨hr_8, hw_7⟩ | ⟨hr_8, hw_7⟩
        ·
          refine W_top (y := .int (-2)) (by rw [hr_8]) ?_
          exact W.iret (v := (-2)) hx hb hr (fun t ht hW => ⟨(-2), rfl, by first | exact Or.inl ⟨rfl, by omega⟩ | (exfalso; omega), ht⟩) (fun q h => by cases h) dX8_lend_34
        ·
          refine W_top (y := .int (-1)) (by rw [hr_8]) ?_
          exact W.iret (v := (-1)) hx hb hr (fun t ht hW => ⟨(-1), rfl, by first | exact Or.inr ⟨rfl, by omega⟩ | (exfalso; omega), ht⟩) (fun q h => by cases h) dX8_lend_34
      ·
        have ic_5 : 20 ≤ p1.toInt := by first | exact (g_le t_20 rfl).mp c_5 | (have h := mt (g_lt rfl t_20).mpr c_5; omega)
        refine lv_iconst (v := (-1)) hx hb dX8_lend_17 (by decide) ?_
        exact W.iret (v := (-1)) hx hb hr (fun t ht hW => ⟨(-1), rfl, by first | exact Or.inr ⟨rfl, by omega⟩ | (exfalso; omega), ht⟩) (fun q h => by cases h) dX8_lend_18
  ·
    refine W_top (y := .int 0) (by rw [hr_2]) ?_
    refine lv_if_eq (tgt := 17) hx hb dX8_lend_4 (by decide) (fun c_9 => ?_) (fun c_9 => absurd (by decide) c_9)
    refine lv_iconst (v := (-1)) hx hb dX8_lend_17 (by decide) ?_
    exact W.iret (v := (-1)) hx hb hr (fun t ht hW => ⟨(-1), rfl, by first | exact Or.inr ⟨rfl, by omega⟩ | (exfalso; omega), ht⟩) (fun q h => by cases h) dX8_lend_18
set_option maxHeartbeats 4000000 in
set_option maxRecDepth 100000 in
theorem c_X8_home (l : Launch) (D : va_G) (E : Nat → Nat) (h0 : Nat) (a : Nat → Nat) (p0 : Int32)  : Met l yX8_home (wl yX8_home cX8_home 4 (some .int)) (RM 2 0 0) (rd_P D E [.ref h0, .int p0] [(h0, .inr (8, xF a 0)), ((a 1), .inl (E 0, 16, .inl (fun _ => -5)))]) (rd_Q (fun r => (r = (-2) ∧ (0 ≤ p0.toInt ∧ p0.toInt ≤ 15)) ∨ (r = (-1) ∧ ¬ (0 ≤ p0.toInt ∧ p0.toInt ≤ 15)))) 0 0 (fun _ => False) := by
  refine Met.ofW (cc := cX8_home) (maxL := 4) (ret := (some .int)) (by decide) rfl ?_
  intro p e s m args below meth c s₁ B hml hv
  obtain ⟨rfl, hP, hK⟩ := hv
  have hx := B.exec
  have hb := B.bytes
  have hr := B.returns
  have hts := atoms_spec (ws := wl yX8_home cX8_home 4 (some .int)) B.pre
  have htb : ∀ w ∈ tb, w.before _ s = true := fun w h => hts w (List.mem_cons_of_mem _ h)
  have hown : s.vm.findClass RX8 = some m.cls := findClass_of_methodNamed B.named
  have hlocks := B.notSynchronized
  have hP : va_P D vwCl [(h0, .inr (8, xF a 0)), ((a 1), .inl (E 0, 16, .inl (fun _ => -5)))] s.heap := hP
  have hl := lv_entry ([.ref h0, .int p0]) (n := 4) (Nat.le_of_ble_eq_true rfl)
  rw [lg_entry_eq]
  generalize (lg_sl ([.ref h0, .int p0]) ++ List.replicate (4 - (lg_sl ([.ref h0, .int p0])).length) Slot.unset).toArray = ls at hl ⊢
  have hl : lv_has ls 4 [(0, .ref h0), (1, .int p0)] := hl
  have lo_p0 := i_lo p0
  have hi_p0 := i_hi p0
  refine lv_iload_n hx hb dX8_home_0 rfl (lv_at hl 1 rfl) ?_
  refine callRS (rest := []) (As := [.int p0]) hx hb hml hown htb hK (c_X8_isPlace l D E p0 ) ok_X8_isPlace k_333 k_334 k_1 k_335 ⟨(Nat.le_of_ble_eq_true rfl), (Nat.le_of_ble_eq_true rfl)⟩ ⟨(Nat.le_of_ble_eq_true rfl), (Nat.le_of_ble_eq_true rfl)⟩ hl.1 (Nat.le_of_ble_eq_true rfl) rfl rfl dX8_home_1 (hP.sub (ws' := ([] : va_W)) [] rfl) (fun r_2 hw_1 => ?_)
  rcases hw_1 with ⟨hr_2, hw_1⟩ | ⟨hr_2, hw_1⟩
  ·
    refine W_top (y := .int 1) (by rw [hr_2]) ?_
    refine lv_if_ne (tgt := 9) hx hb dX8_home_4 (by decide) (fun c_3 => ?_) (fun c_3 => absurd c_3 (by decide))
    refine lv_aload_n hx hb dX8_home_9 rfl (lv_at hl 0 rfl) ?_
    refine lv_iload_n hx hb dX8_home_10 rfl (lv_at hl 1 rfl) ?_
    refine callNV (rest := []) (As := [.int p0]) hx hb hml hown htb hK (c_X8_watchAt l D E h0 a p0 ) ok_X8_watchAt k_369 k_371 ks_1 k_1 k_372 ⟨(Nat.le_of_ble_eq_true rfl), (Nat.le_of_ble_eq_true rfl)⟩ ⟨(Nat.le_of_ble_eq_true rfl), (Nat.le_of_ble_eq_true rfl)⟩ hl.1 (Nat.le_of_ble_eq_true rfl) rfl rfl dX8_home_11 (hP.sub (ws' := [(h0, .inr (8, xF a 0)), ((a 1), .inl (E 0, 16, .inl (fun _ => -5)))]) [0, 1] rfl) rfl rfl 0 rfl ?_
    refine lv_astore_nN (lv' := [(2, .null), (0, .ref h0), (1, .int p0)]) hx hb dX8_home_14 rfl hl (by decide) rfl (fun ls hl => ?_)
    refine lv_aload_nN hx hb dX8_home_15 rfl (lv_at hl 0 rfl) ?_
    refine lv_ifnonnullN hx hb dX8_home_16 ?_
    refine lv_aload_n hx hb dX8_home_19 rfl (lv_at hl 1 rfl) ?_
    refine lv_iload_n hx hb dX8_home_20 rfl (lv_at hl 2 rfl) ?_
    refine callRV (rest := []) (As := [.int p0]) hx hb hml hown htb hK (c_X8_lackAt l D E h0 a p0 ) ok_X8_lackAt k_396 k_398 ks_3 k_1 k_399 ⟨(Nat.le_of_ble_eq_true rfl), (Nat.le_of_ble_eq_true rfl)⟩ ⟨(Nat.le_of_ble_eq_true rfl), (Nat.le_of_ble_eq_true rfl)⟩ hl.1 (Nat.le_of_ble_eq_true rfl) rfl rfl dX8_home_21 (hP.sub (ws' := [(h0, .inr (8, xF a 0)), ((a 1), .inl (E 0, 16, .inl (fun _ => -5)))]) [0, 1] rfl) rfl rfl 0 rfl (fun r_6 hw_5 => ?_)
    rcases hw_5 with ⟨hr_6, hw_5⟩ | ⟨hr_6, hw_5⟩
    ·
      refine W_top (y := .int (-2)) (by rw [hr_6]) ?_
      exact W.iret (v := (-2)) hx hb hr (fun t ht hW => ⟨(-2), rfl, by first | exact Or.inl ⟨rfl, by omega⟩ | (exfalso; omega), ht⟩) (fun q h => by cases h) dX8_home_24
    ·
      refine W_top (y := .int (-1)) (by rw [hr_6]) ?_
      exact W.iret (v := (-1)) hx hb hr (fun t ht hW => ⟨(-1), rfl, by first | exact Or.inr ⟨rfl, by omega⟩ | (exfalso; omega), ht⟩) (fun q h => by cases h) dX8_home_24
  ·
    refine W_top (y := .int 0) (by rw [hr_2]) ?_
    refine lv_if_ne (tgt := 9) hx hb dX8_home_4 (by decide) (fun c_7 => absurd (by decide) c_7) (fun c_7 => ?_)
    refine lv_iconst (v := (-1)) hx hb dX8_home_7 (by decide) ?_
    exact W.iret (v := (-1)) hx hb hr (fun t ht hW => ⟨(-1), rfl, by first | exact Or.inr ⟨rfl, by omega⟩ | (exfalso; omega), ht⟩) (fun q h => by cases h) dX8_home_8
set_option maxHeartbeats 4000000 in
set_option maxRecDepth 100000 in
theorem c_X8_holder (l : Launch) (D : va_G) (E : Nat → Nat) (h0 : Nat) (a : Nat → Nat) (p0 : Int32) (p1 : Int32)  : Met l yX8_holder (wl yX8_holder cX8_holder 4 (some .int)) (RM 2 0 0) (rd_P D E [.ref h0, .int p0, .int p1] [(h0, .inr (8, xF a 0)), ((a 1), .inl (E 0, 16, .inl (fun _ => -5)))]) (rd_Q (fun r => (r = (-2000000000) ∧ True))) 0 0 (fun _ => False) := by
  refine Met.ofW (cc := cX8_holder) (maxL := 4) (ret := (some .int)) (by decide) rfl ?_
  intro p e s m args below meth c s₁ B hml hv
  obtain ⟨rfl, hP, hK⟩ := hv
  have hx := B.exec
  have hb := B.bytes
  have hr := B.returns
  have hts := atoms_spec (ws := wl yX8_holder cX8_holder 4 (some .int)) B.pre
  have htb : ∀ w ∈ tb, w.before _ s = true := fun w h => hts w (List.mem_cons_of_mem _ h)
  have hown : s.vm.findClass RX8 = some m.cls := findClass_of_methodNamed B.named
  have hlocks := B.notSynchronized
  have hP : va_P D vwCl [(h0, .inr (8, xF a 0)), ((a 1), .inl (E 0, 16, .inl (fun _ => -5)))] s.heap := hP
  have hl := lv_entry ([.ref h0, .int p0, .int p1]) (n := 4) (Nat.le_of_ble_eq_true rfl)
  rw [lg_entry_eq]
  generalize (lg_sl ([.ref h0, .int p0, .int p1]) ++ List.replicate (4 - (lg_sl ([.ref h0, .int p0, .int p1])).length) Slot.unset).toArray = ls at hl ⊢
  have hl : lv_has ls 4 [(0, .ref h0), (1, .int p0), (2, .int p1)] := hl
  have lo_p0 := i_lo p0
  have hi_p0 := i_hi p0
  have lo_p1 := i_lo p1
  have hi_p1 := i_hi p1
  refine lv_aload_n hx hb dX8_holder_0 rfl (lv_at hl 0 rfl) ?_
  refine lv_iload_n hx hb dX8_holder_1 rfl (lv_at hl 1 rfl) ?_
  refine callNV (rest := []) (As := [.int p0]) hx hb hml hown htb hK (c_X8_watchAt l D E h0 a p0 ) ok_X8_watchAt k_369 k_371 ks_1 k_1 k_372 ⟨(Nat.le_of_ble_eq_true rfl), (Nat.le_of_ble_eq_true rfl)⟩ ⟨(Nat.le_of_ble_eq_true rfl), (Nat.le_of_ble_eq_true rfl)⟩ hl.1 (Nat.le_of_ble_eq_true rfl) rfl rfl dX8_holder_2 (hP.sub (ws' := [(h0, .inr (8, xF a 0)), ((a 1), .inl (E 0, 16, .inl (fun _ => -5)))]) [0, 1] rfl) rfl rfl 0 rfl ?_
  refine lv_astore_nN (lv' := [(3, .null), (0, .ref h0), (1, .int p0), (2, .int p1)]) hx hb dX8_holder_5 rfl hl (by decide) rfl (fun ls hl => ?_)
  refine lv_aload_nN hx hb dX8_holder_6 rfl (lv_at hl 0 rfl) ?_
  refine lv_ifnullN (tgt := 18) hx hb dX8_holder_7 (by decide) ?_
  refine lv_ldc hx hb hown (htb _ k_386) dX8_holder_18 ?_
  refine lv_goto (tgt := 28) hx hb dX8_holder_20 (by decide) ?_
  exact W.iret (v := (-2000000000)) hx hb hr (fun t ht hW => ⟨(-2000000000), rfl, ⟨rfl, trivial⟩, ht⟩) (fun q h => by cases h) dX8_holder_28
set_option maxHeartbeats 4000000 in
set_option maxRecDepth 100000 in
theorem c_X8_away (l : Launch) (D : va_G) (E : Nat → Nat) (h0 : Nat) (a : Nat → Nat) (p0 : Int32)  : Met l yX8_away (wl yX8_away cX8_away 3 (some .int)) (RM 2 0 0) (rd_P D E [.ref h0, .int p0] [(h0, .inr (8, xF a 0)), ((a 1), .inl (E 0, 16, .inl (fun _ => -5)))]) (rd_Q (fun r => (r = (-2) ∧ (0 ≤ p0.toInt ∧ p0.toInt ≤ 15)) ∨ (r = (-1) ∧ ¬ (0 ≤ p0.toInt ∧ p0.toInt ≤ 15)))) 0 0 (fun _ => False) := by
  refine Met.ofW (cc := cX8_away) (maxL := 3) (ret := (some .int)) (by decide) rfl ?_
  intro p e s m args below meth c s₁ B hml hv
  obtain ⟨rfl, hP, hK⟩ := hv
  have hx := B.exec
  have hb := B.bytes
  have hr := B.returns
  have hts := atoms_spec (ws := wl yX8_away cX8_away 3 (some .int)) B.pre
  have htb : ∀ w ∈ tb, w.before _ s = true := fun w h => hts w (List.mem_cons_of_mem _ h)
  have hown : s.vm.findClass RX8 = some m.cls := findClass_of_methodNamed B.named
  have hlocks := B.notSynchronized
  have hP : va_P D vwCl [(h0, .inr (8, xF a 0)), ((a 1), .inl (E 0, 16, .inl (fun _ => -5)))] s.heap := hP
  have hl := lv_entry ([.ref h0, .int p0]) (n := 3) (Nat.le_of_ble_eq_true rfl)
  rw [lg_entry_eq]
  generalize (lg_sl ([.ref h0, .int p0]) ++ List.replicate (3 - (lg_sl ([.ref h0, .int p0])).length) Slot.unset).toArray = ls at hl ⊢
  have hl : lv_has ls 3 [(0, .ref h0), (1, .int p0)] := hl
  have lo_p0 := i_lo p0
  have hi_p0 := i_hi p0
  refine lv_iload_n hx hb dX8_away_0 rfl (lv_at hl 1 rfl) ?_
  refine callRS (rest := []) (As := [.int p0]) hx hb hml hown htb hK (c_X8_isPlace l D E p0 ) ok_X8_isPlace k_333 k_334 k_1 k_335 ⟨(Nat.le_of_ble_eq_true rfl), (Nat.le_of_ble_eq_true rfl)⟩ ⟨(Nat.le_of_ble_eq_true rfl), (Nat.le_of_ble_eq_true rfl)⟩ hl.1 (Nat.le_of_ble_eq_true rfl) rfl rfl dX8_away_1 (hP.sub (ws' := ([] : va_W)) [] rfl) (fun r_2 hw_1 => ?_)
  rcases hw_1 with ⟨hr_2, hw_1⟩ | ⟨hr_2, hw_1⟩
  ·
    refine W_top (y := .int 1) (by rw [hr_2]) ?_
    refine lv_if_ne (tgt := 9) hx hb dX8_away_4 (by decide) (fun c_3 => ?_) (fun c_3 => absurd c_3 (by decide))
    refine lv_aload_n hx hb dX8_away_9 rfl (lv_at hl 0 rfl) ?_
    refine lv_iload_n hx hb dX8_away_10 rfl (lv_at hl 1 rfl) ?_
    refine callNV (rest := []) (As := [.int p0]) hx hb hml hown htb hK (c_X8_watchAt l D E h0 a p0 ) ok_X8_watchAt k_369 k_371 ks_1 k_1 k_372 ⟨(Nat.le_of_ble_eq_true rfl), (Nat.le_of_ble_eq_true rfl)⟩ ⟨(Nat.le_of_ble_eq_true rfl), (Nat.le_of_ble_eq_true rfl)⟩ hl.1 (Nat.le_of_ble_eq_true rfl) rfl rfl dX8_away_11 (hP.sub (ws' := [(h0, .inr (8, xF a 0)), ((a 1), .inl (E 0, 16, .inl (fun _ => -5)))]) [0, 1] rfl) rfl rfl 0 rfl ?_
    refine lv_astore_nN (lv' := [(2, .null), (0, .ref h0), (1, .int p0)]) hx hb dX8_away_14 rfl hl (by decide) rfl (fun ls hl => ?_)
    refine lv_aload_nN hx hb dX8_away_15 rfl (lv_at hl 0 rfl) ?_
    refine lv_ifnonnullN hx hb dX8_away_16 ?_
    refine lv_aload_n hx hb dX8_away_19 rfl (lv_at hl 1 rfl) ?_
    refine lv_iload_n hx hb dX8_away_20 rfl (lv_at hl 2 rfl) ?_
    refine callRV (rest := []) (As := [.int p0]) hx hb hml hown htb hK (c_X8_lackAt l D E h0 a p0 ) ok_X8_lackAt k_396 k_398 ks_3 k_1 k_399 ⟨(Nat.le_of_ble_eq_true rfl), (Nat.le_of_ble_eq_true rfl)⟩ ⟨(Nat.le_of_ble_eq_true rfl), (Nat.le_of_ble_eq_true rfl)⟩ hl.1 (Nat.le_of_ble_eq_true rfl) rfl rfl dX8_away_21 (hP.sub (ws' := [(h0, .inr (8, xF a 0)), ((a 1), .inl (E 0, 16, .inl (fun _ => -5)))]) [0, 1] rfl) rfl rfl 0 rfl (fun r_6 hw_5 => ?_)
    rcases hw_5 with ⟨hr_6, hw_5⟩ | ⟨hr_6, hw_5⟩
    ·
      refine W_top (y := .int (-2)) (by rw [hr_6]) ?_
      refine lv_goto (tgt := 35) hx hb dX8_away_24 (by decide) ?_
      exact W.iret (v := (-2)) hx hb hr (fun t ht hW => ⟨(-2), rfl, by first | exact Or.inl ⟨rfl, by omega⟩ | (exfalso; omega), ht⟩) (fun q h => by cases h) dX8_away_35
    ·
      refine W_top (y := .int (-1)) (by rw [hr_6]) ?_
      refine lv_goto (tgt := 35) hx hb dX8_away_24 (by decide) ?_
      exact W.iret (v := (-1)) hx hb hr (fun t ht hW => ⟨(-1), rfl, by first | exact Or.inr ⟨rfl, by omega⟩ | (exfalso; omega), ht⟩) (fun q h => by cases h) dX8_away_35
  ·
    refine W_top (y := .int 0) (by rw [hr_2]) ?_
    refine lv_if_ne (tgt := 9) hx hb dX8_away_4 (by decide) (fun c_7 => absurd (by decide) c_7) (fun c_7 => ?_)
    refine lv_iconst (v := (-1)) hx hb dX8_away_7 (by decide) ?_
    exact W.iret (v := (-1)) hx hb hr (fun t ht hW => ⟨(-1), rfl, by first | exact Or.inr ⟨rfl, by omega⟩ | (exfalso; omega), ht⟩) (fun q h => by cases h) dX8_away_8
end
section
set_option maxHeartbeats 4000000 in
set_option maxRecDepth 100000 in
theorem c_X8_carried (l : Launch) (D : va_G) (E : Nat → Nat) (h0 : Nat) (a : Nat → Nat) (b : Nat → Nat → Nat) (p0 : Int32) (p1 : Int32) (p2 : Int32)  : Met l yX8_carried (wl yX8_carried cX8_carried 5 (some .int)) (RM 1 0 0) (rd_P D E [.ref h0, .int p0, .int p1, .int p2] [(h0, .inr (8, xF a 0)), ((a 4), .inl (E 4, 5, .inr (.inr (.inr (.inr (fun j => some (a (13 + j)))))))), ((a 13), .inr (5, sF (b 0))), ((a 14), .inr (5, sF (b 1))), ((a 15), .inr (5, sF (b 2))), ((a 16), .inr (5, sF (b 3))), ((a 17), .inr (5, sF (b 4)))]) (rd_Q (fun r => (r = (-2000000000) ∧ True))) 0 0 (fun _ => False) := by
  refine Met.ofW (cc := cX8_carried) (maxL := 5) (ret := (some .int)) (by decide) rfl ?_
  intro p e s m args below meth c s₁ B hml hv
  obtain ⟨rfl, hP, hK⟩ := hv
  have hx := B.exec
  have hb := B.bytes
  have hr := B.returns
  have hts := atoms_spec (ws := wl yX8_carried cX8_carried 5 (some .int)) B.pre
  have htb : ∀ w ∈ tb, w.before _ s = true := fun w h => hts w (List.mem_cons_of_mem _ h)
  have hown : s.vm.findClass RX8 = some m.cls := findClass_of_methodNamed B.named
  have hlocks := B.notSynchronized
  have hP : va_P D vwCl [(h0, .inr (8, xF a 0)), ((a 4), .inl (E 4, 5, .inr (.inr (.inr (.inr (fun j => some (a (13 + j)))))))), ((a 13), .inr (5, sF (b 0))), ((a 14), .inr (5, sF (b 1))), ((a 15), .inr (5, sF (b 2))), ((a 16), .inr (5, sF (b 3))), ((a 17), .inr (5, sF (b 4)))] s.heap := hP
  have hl := lv_entry ([.ref h0, .int p0, .int p1, .int p2]) (n := 5) (Nat.le_of_ble_eq_true rfl)
  rw [lg_entry_eq]
  generalize (lg_sl ([.ref h0, .int p0, .int p1, .int p2]) ++ List.replicate (5 - (lg_sl ([.ref h0, .int p0, .int p1, .int p2])).length) Slot.unset).toArray = ls at hl ⊢
  have hl : lv_has ls 5 [(0, .ref h0), (1, .int p0), (2, .int p1), (3, .int p2)] := hl
  have lo_p0 := i_lo p0
  have hi_p0 := i_hi p0
  have lo_p1 := i_lo p1
  have hi_p1 := i_hi p1
  have lo_p2 := i_lo p2
  have hi_p2 := i_hi p2
  refine lv_iload_n hx hb dX8_carried_0 rfl (lv_at hl 1 rfl) ?_
  refine callRS (rest := []) (As := [.int p0]) hx hb hml hown htb hK (c_X8_isShip l D E p0 ) ok_X8_isShip k_773 k_774 k_1 k_775 ⟨(Nat.le_of_ble_eq_true rfl), (Nat.le_of_ble_eq_true rfl)⟩ ⟨(Nat.le_of_ble_eq_true rfl), (Nat.le_of_ble_eq_true rfl)⟩ hl.1 (Nat.le_of_ble_eq_true rfl) rfl rfl dX8_carried_1 (hP.sub (ws' := ([] : va_W)) [] rfl) (fun r_2 hw_1 => ?_)
  rcases hw_1 with ⟨hr_2, hw_1⟩ | ⟨hr_2, hw_1⟩
  ·
    refine W_top (y := .int 1) (by rw [hr_2]) ?_
    refine lv_if_eq (tgt := 28) hx hb dX8_carried_4 (by decide) (fun c_3 => absurd c_3 (by decide)) (fun c_3 => ?_)
    refine lv_iload_n hx hb dX8_carried_7 rfl (lv_at hl 2 rfl) ?_
    refine lv_if_lt (tgt := 28) hx hb dX8_carried_8 (by decide) (fun c_4 => ?_) (fun c_4 => ?_)
    ·
      have ic_4 : p1.toInt < 0 := by first | exact (g_lt rfl t_0).mp c_4 | (have h := mt (g_le t_0 rfl).mpr c_4; omega)
      refine lv_ldc hx hb hown (htb _ k_386) dX8_carried_28 ?_
      exact W.iret (v := (-2000000000)) hx hb hr (fun t ht hW => ⟨(-2000000000), rfl, ⟨rfl, trivial⟩, ht⟩) (fun q h => by cases h) dX8_carried_30
    ·
      have ic_4 : 0 ≤ p1.toInt := by first | exact (g_le t_0 rfl).mp c_4 | (have h := mt (g_lt rfl t_0).mpr c_4; omega)
      refine lv_iload_n hx hb dX8_carried_11 rfl (lv_at hl 2 rfl) ?_
      refine lv_iconst (v := 3) hx hb dX8_carried_12 (by decide) ?_
      refine lv_icmp_ge (tgt := 28) hx hb dX8_carried_13 (by decide) (fun c_5 => ?_) (fun c_5 => ?_)
      ·
        have ic_5 : 3 ≤ p1.toInt := by first | exact (g_le t_3 rfl).mp c_5 | (have h := mt (g_lt rfl t_3).mpr c_5; omega)
        refine lv_ldc hx hb hown (htb _ k_386) dX8_carried_28 ?_
        exact W.iret (v := (-2000000000)) hx hb hr (fun t ht hW => ⟨(-2000000000), rfl, ⟨rfl, trivial⟩, ht⟩) (fun q h => by cases h) dX8_carried_30
      ·
        have ic_5 : p1.toInt < 3 := by first | exact (g_lt rfl t_3).mp c_5 | (have h := mt (g_le t_3 rfl).mpr c_5; omega)
        refine lv_aload_n hx hb dX8_carried_16 rfl (lv_at hl 0 rfl) ?_
        refine va_get (D := D) (ci := 8) (v := .ref (a 4)) (C := RX8) (T := TX8) (N := 14) hx hb htb iX8 hown hK.1 hP 0 rfl rfl 4 (by decide) (htb _ k_276) (fun _ h9 => h9) rfl dX8_carried_17 ?_
        refine lv_iload_n hx hb dX8_carried_20 rfl (lv_at hl 1 rfl) ?_
        refine va_aldq hx hb hK.1 hP 1 4 rfl rfl (g_in rfl (by omega) (by omega)) dX8_carried_21 ?_
        have h_6 : p0.toInt = 0 ∨ p0.toInt = 1 ∨ p0.toInt = 2 ∨ p0.toInt = 3 ∨ p0.toInt = 4 := by omega
        rcases h_6 with h_6 | h_6 | h_6 | h_6 | h_6
        ·
          have h_6e : p0 = 0 := (g_eq rfl t_0).mpr h_6
          refine W_top (y := .ref (a 13)) (by rw [h_6e]; exact congrArg (fun n => Value.ref (a n)) (by decide : 13 + (0 : Int32).toNatClampNeg = 13)) ?_
          refine va_getN (D := D) (ci := 5) (v := .int 0) (C := RX5) (T := TX5) (N := 11) hx hb htb iX5 hown hK.1 hP 2 rfl rfl 8 (by decide) (va_Nw.use rfl (hK.2.1 (Cond.fieldLinkNest RX8 208 "SeaWatches$Ship" "stage" "I" "SeaWatches") (by decide +kernel))) (fun _ h9 => h9) rfl dX8_carried_22 ?_
          refine lv_if_ne (tgt := 31) hx hb dX8_carried_25 (by decide) (fun c_7 => absurd (by decide) c_7) (fun c_7 => ?_)
          refine lv_ldc hx hb hown (htb _ k_386) dX8_carried_28 ?_
          exact W.iret (v := (-2000000000)) hx hb hr (fun t ht hW => ⟨(-2000000000), rfl, ⟨rfl, trivial⟩, ht⟩) (fun q h => by cases h) dX8_carried_30
        ·
          have h_6e : p0 = 1 := (g_eq rfl t_1).mpr h_6
          refine W_top (y := .ref (a 14)) (by rw [h_6e]; exact congrArg (fun n => Value.ref (a n)) (by decide : 13 + (1 : Int32).toNatClampNeg = 14)) ?_
          refine va_getN (D := D) (ci := 5) (v := .int 0) (C := RX5) (T := TX5) (N := 11) hx hb htb iX5 hown hK.1 hP 3 rfl rfl 8 (by decide) (va_Nw.use rfl (hK.2.1 (Cond.fieldLinkNest RX8 208 "SeaWatches$Ship" "stage" "I" "SeaWatches") (by decide +kernel))) (fun _ h9 => h9) rfl dX8_carried_22 ?_
          refine lv_if_ne (tgt := 31) hx hb dX8_carried_25 (by decide) (fun c_8 => absurd (by decide) c_8) (fun c_8 => ?_)
          refine lv_ldc hx hb hown (htb _ k_386) dX8_carried_28 ?_
          exact W.iret (v := (-2000000000)) hx hb hr (fun t ht hW => ⟨(-2000000000), rfl, ⟨rfl, trivial⟩, ht⟩) (fun q h => by cases h) dX8_carried_30
        ·
          have h_6e : p0 = 2 := (g_eq rfl t_2).mpr h_6
          refine W_top (y := .ref (a 15)) (by rw [h_6e]; exact congrArg (fun n => Value.ref (a n)) (by decide : 13 + (2 : Int32).toNatClampNeg = 15)) ?_
          refine va_getN (D := D) (ci := 5) (v := .int 0) (C := RX5) (T := TX5) (N := 11) hx hb htb iX5 hown hK.1 hP 4 rfl rfl 8 (by decide) (va_Nw.use rfl (hK.2.1 (Cond.fieldLinkNest RX8 208 "SeaWatches$Ship" "stage" "I" "SeaWatches") (by decide +kernel))) (fun _ h9 => h9) rfl dX8_carried_22 ?_
          refine lv_if_ne (tgt := 31) hx hb dX8_carried_25 (by decide) (fun c_9 => absurd (by decide) c_9) (fun c_9 => ?_)
          refine lv_ldc hx hb hown (htb _ k_386) dX8_carried_28 ?_
          exact W.iret (v := (-2000000000)) hx hb hr (fun t ht hW => ⟨(-2000000000), rfl, ⟨rfl, trivial⟩, ht⟩) (fun q h => by cases h) dX8_carried_30
        ·
          have h_6e : p0 = 3 := (g_eq rfl t_3).mpr h_6
          refine W_top (y := .ref (a 16)) (by rw [h_6e]; exact congrArg (fun n => Value.ref (a n)) (by decide : 13 + (3 : Int32).toNatClampNeg = 16)) ?_
          refine va_getN (D := D) (ci := 5) (v := .int 0) (C := RX5) (T := TX5) (N := 11) hx hb htb iX5 hown hK.1 hP 5 rfl rfl 8 (by decide) (va_Nw.use rfl (hK.2.1 (Cond.fieldLinkNest RX8 208 "SeaWatches$Ship" "stage" "I" "SeaWatches") (by decide +kernel))) (fun _ h9 => h9) rfl dX8_carried_22 ?_
          refine lv_if_ne (tgt := 31) hx hb dX8_carried_25 (by decide) (fun c_10 => absurd (by decide) c_10) (fun c_10 => ?_)
          refine lv_ldc hx hb hown (htb _ k_386) dX8_carried_28 ?_
          exact W.iret (v := (-2000000000)) hx hb hr (fun t ht hW => ⟨(-2000000000), rfl, ⟨rfl, trivial⟩, ht⟩) (fun q h => by cases h) dX8_carried_30
        ·
          have h_6e : p0 = 4 := (g_eq rfl t_4).mpr h_6
          refine W_top (y := .ref (a 17)) (by rw [h_6e]; exact congrArg (fun n => Value.ref (a n)) (by decide : 13 + (4 : Int32).toNatClampNeg = 17)) ?_
          refine va_getN (D := D) (ci := 5) (v := .int 0) (C := RX5) (T := TX5) (N := 11) hx hb htb iX5 hown hK.1 hP 6 rfl rfl 8 (by decide) (va_Nw.use rfl (hK.2.1 (Cond.fieldLinkNest RX8 208 "SeaWatches$Ship" "stage" "I" "SeaWatches") (by decide +kernel))) (fun _ h9 => h9) rfl dX8_carried_22 ?_
          refine lv_if_ne (tgt := 31) hx hb dX8_carried_25 (by decide) (fun c_11 => absurd (by decide) c_11) (fun c_11 => ?_)
          refine lv_ldc hx hb hown (htb _ k_386) dX8_carried_28 ?_
          exact W.iret (v := (-2000000000)) hx hb hr (fun t ht hW => ⟨(-2000000000), rfl, ⟨rfl, trivial⟩, ht⟩) (fun q h => by cases h) dX8_carried_30
  ·
    refine W_top (y := .int 0) (by rw [hr_2]) ?_
    refine lv_if_eq (tgt := 28) hx hb dX8_carried_4 (by decide) (fun c_12 => ?_) (fun c_12 => absurd (by decide) c_12)
    refine lv_ldc hx hb hown (htb _ k_386) dX8_carried_28 ?_
    exact W.iret (v := (-2000000000)) hx hb hr (fun t ht hW => ⟨(-2000000000), rfl, ⟨rfl, trivial⟩, ht⟩) (fun q h => by cases h) dX8_carried_30
set_option maxHeartbeats 4000000 in
set_option maxRecDepth 100000 in
theorem c_X8_sight (l : Launch) (D : va_G) (E : Nat → Nat) (h0 : Nat) (a : Nat → Nat) (b : Nat → Nat → Nat) (p0 : Int32) (p1 : Int32) (p2 : Int32) (p3 : Int32) (p4 : Int32)  : Met l yX8_sight (wl yX8_sight cX8_sight 7 (some .int)) (RM 1 0 0) (rd_P D E [.ref h0, .int p0, .int p1, .int p2, .int p3, .int p4] [(h0, .inr (8, xF a 0)), ((a 4), .inl (E 4, 5, .inr (.inr (.inr (.inr (fun j => some (a (13 + j)))))))), ((a 13), .inr (5, sF (b 0))), ((a 14), .inr (5, sF (b 1))), ((a 15), .inr (5, sF (b 2))), ((a 16), .inr (5, sF (b 3))), ((a 17), .inr (5, sF (b 4)))]) (rd_Q (fun r => (r = (-4) ∧ ((0 ≤ p0.toInt ∧ p0.toInt ≤ 4) ∧ (0 ≤ p1.toInt ∧ p1.toInt ≤ 0) ∧ (-2000000 ≤ p2.toInt ∧ p2.toInt ≤ 2000000) ∧ (-2000000 ≤ p3.toInt ∧ p3.toInt ≤ 2000000) ∧ (-2000000 ≤ p4.toInt ∧ p4.toInt ≤ 2000000))) ∨ (r = (-1) ∧ ¬ ((0 ≤ p0.toInt ∧ p0.toInt ≤ 4) ∧ (0 ≤ p1.toInt ∧ p1.toInt ≤ 0) ∧ (-2000000 ≤ p2.toInt ∧ p2.toInt ≤ 2000000) ∧ (-2000000 ≤ p3.toInt ∧ p3.toInt ≤ 2000000) ∧ (-2000000 ≤ p4.toInt ∧ p4.toInt ≤ 2000000))))) 0 0 (fun _ => False) := by
  refine Met.ofW (cc := cX8_sight) (maxL := 7) (ret := (some .int)) (by decide) rfl ?_
  intro p e s m args below meth c s₁ B hml hv
  obtain ⟨rfl, hP, hK⟩ := hv
  have hx := B.exec
  have hb := B.bytes
  have hr := B.returns
  have hts := atoms_spec (ws := wl yX8_sight cX8_sight 7 (some .int)) B.pre
  have htb : ∀ w ∈ tb, w.before _ s = true := fun w h => hts w (List.mem_cons_of_mem _ h)
  have hown : s.vm.findClass RX8 = some m.cls := findClass_of_methodNamed B.named
  have hlocks := B.notSynchronized
  have hP : va_P D vwCl [(h0, .inr (8, xF a 0)), ((a 4), .inl (E 4, 5, .inr (.inr (.inr (.inr (fun j => some (a (13 + j)))))))), ((a 13), .inr (5, sF (b 0))), ((a 14), .inr (5, sF (b 1))), ((a 15), .inr (5, sF (b 2))), ((a 16), .inr (5, sF (b 3))), ((a 17), .inr (5, sF (b 4)))] s.heap := hP
  have hl := lv_entry ([.ref h0, .int p0, .int p1, .int p2, .int p3, .int p4]) (n := 7) (Nat.le_of_ble_eq_true rfl)
  rw [lg_entry_eq]
  generalize (lg_sl ([.ref h0, .int p0, .int p1, .int p2, .int p3, .int p4]) ++ List.replicate (7 - (lg_sl ([.ref h0, .int p0, .int p1, .int p2, .int p3, .int p4])).length) Slot.unset).toArray = ls at hl ⊢
  have hl : lv_has ls 7 [(0, .ref h0), (1, .int p0), (2, .int p1), (3, .int p2), (4, .int p3), (5, .int p4)] := hl
  have lo_p0 := i_lo p0
  have hi_p0 := i_hi p0
  have lo_p1 := i_lo p1
  have hi_p1 := i_hi p1
  have lo_p2 := i_lo p2
  have hi_p2 := i_hi p2
  have lo_p3 := i_lo p3
  have hi_p3 := i_hi p3
  have lo_p4 := i_lo p4
  have hi_p4 := i_hi p4
  refine lv_iload_n hx hb dX8_sight_0 rfl (lv_at hl 1 rfl) ?_
  refine callRS (rest := []) (As := [.int p0]) hx hb hml hown htb hK (c_X8_isShip l D E p0 ) ok_X8_isShip k_773 k_774 k_1 k_775 ⟨(Nat.le_of_ble_eq_true rfl), (Nat.le_of_ble_eq_true rfl)⟩ ⟨(Nat.le_of_ble_eq_true rfl), (Nat.le_of_ble_eq_true rfl)⟩ hl.1 (Nat.le_of_ble_eq_true rfl) rfl rfl dX8_sight_1 (hP.sub (ws' := ([] : va_W)) [] rfl) (fun r_2 hw_1 => ?_)
  rcases hw_1 with ⟨hr_2, hw_1⟩ | ⟨hr_2, hw_1⟩
  ·
    refine W_top (y := .int 1) (by rw [hr_2]) ?_
    refine lv_if_eq (tgt := 44) hx hb dX8_sight_4 (by decide) (fun c_3 => absurd c_3 (by decide)) (fun c_3 => ?_)
    refine lv_aload_n hx hb dX8_sight_7 rfl (lv_at hl 0 rfl) ?_
    refine lv_iload_n hx hb dX8_sight_8 rfl (lv_at hl 2 rfl) ?_
    refine callRV (rest := []) (As := [.int p1]) hx hb hml hown htb hK (c_X8_isPast l D E h0 a p1 ) ok_X8_isPast k_391 k_393 ks_2 k_1 k_394 ⟨(Nat.le_of_ble_eq_true rfl), (Nat.le_of_ble_eq_true rfl)⟩ ⟨(Nat.le_of_ble_eq_true rfl), (Nat.le_of_ble_eq_true rfl)⟩ hl.1 (Nat.le_of_ble_eq_true rfl) rfl rfl dX8_sight_9 (hP.sub (ws' := [(h0, .inr (8, xF a 0))]) [0] rfl) rfl rfl 0 rfl (fun r_5 hw_4 => ?_)
    rcases hw_4 with ⟨hr_5, hw_4⟩ | ⟨hr_5, hw_4⟩
    ·
      refine W_top (y := .int 1) (by rw [hr_5]) ?_
      refine lv_if_eq (tgt := 44) hx hb dX8_sight_12 (by decide) (fun c_6 => absurd c_6 (by decide)) (fun c_6 => ?_)
      refine lv_iload_n hx hb dX8_sight_15 rfl (lv_at hl 3 rfl) ?_
      refine lv_ldc hx hb hown (htb _ k_816) dX8_sight_16 ?_
      refine callRS (rest := []) (As := [.int p2, .int 2000000]) hx hb hml hown htb hK (c_X8_isWithin l D E p2 2000000 (by decide)) ok_X8_isWithin k_326 k_327 k_1 k_328 ⟨(Nat.le_of_ble_eq_true rfl), (Nat.le_of_ble_eq_true rfl)⟩ ⟨(Nat.le_of_ble_eq_true rfl), (Nat.le_of_ble_eq_true rfl)⟩ hl.1 (Nat.le_of_ble_eq_true rfl) rfl rfl dX8_sight_18 (hP.sub (ws' := ([] : va_W)) [] rfl) (fun r_8 hw_7 => ?_)
      rcases hw_7 with ⟨hr_8, hw_7⟩ | ⟨hr_8, hw_7⟩
      ·
        try simp only [t_2000000] at hw_7
        refine W_top (y := .int 1) (by rw [hr_8]) ?_
        refine lv_if_eq (tgt := 44) hx hb dX8_sight_21 (by decide) (fun c_9 => absurd c_9 (by decide)) (fun c_9 => ?_)
        refine lv_iload hx hb dX8_sight_24 (lv_at hl 4 rfl) ?_
        refine lv_ldc hx hb hown (htb _ k_816) dX8_sight_26 ?_
        refine callRS (rest := []) (As := [.int p3, .int 2000000]) hx hb hml hown htb hK (c_X8_isWithin l D E p3 2000000 (by decide)) ok_X8_isWithin k_326 k_327 k_1 k_328 ⟨(Nat.le_of_ble_eq_true rfl), (Nat.le_of_ble_eq_true rfl)⟩ ⟨(Nat.le_of_ble_eq_true rfl), (Nat.le_of_ble_eq_true rfl)⟩ hl.1 (Nat.le_of_ble_eq_true rfl) rfl rfl dX8_sight_28 (hP.sub (ws' := ([] : va_W)) [] rfl) (fun r_11 hw_10 => ?_)
        rcases hw_10 with ⟨hr_11, hw_10⟩ | ⟨hr_11, hw_10⟩
        ·
          try simp only [t_2000000] at hw_10
          refine W_top (y := .int 1) (by rw [hr_11]) ?_
          refine lv_if_eq (tgt := 44) hx hb dX8_sight_31 (by decide) (fun c_12 => absurd c_12 (by decide)) (fun c_12 => ?_)
          refine lv_iload hx hb dX8_sight_34 (lv_at hl 5 rfl) ?_
          refine lv_ldc hx hb hown (htb _ k_816) dX8_sight_36 ?_
          refine callRS (rest := []) (As := [.int p4, .int 2000000]) hx hb hml hown htb hK (c_X8_isWithin l D E p4 2000000 (by decide)) ok_X8_isWithin k_326 k_327 k_1 k_328 ⟨(Nat.le_of_ble_eq_true rfl), (Nat.le_of_ble_eq_true rfl)⟩ ⟨(Nat.le_of_ble_eq_true rfl), (Nat.le_of_ble_eq_true rfl)⟩ hl.1 (Nat.le_of_ble_eq_true rfl) rfl rfl dX8_sight_38 (hP.sub (ws' := ([] : va_W)) [] rfl) (fun r_14 hw_13 => ?_)
          rcases hw_13 with ⟨hr_14, hw_13⟩ | ⟨hr_14, hw_13⟩
          ·
            try simp only [t_2000000] at hw_13
            refine W_top (y := .int 1) (by rw [hr_14]) ?_
            refine lv_if_ne (tgt := 46) hx hb dX8_sight_41 (by decide) (fun c_15 => ?_) (fun c_15 => absurd c_15 (by decide))
            refine lv_aload_n hx hb dX8_sight_46 rfl (lv_at hl 0 rfl) ?_
            refine va_get (D := D) (ci := 8) (v := .ref (a 4)) (C := RX8) (T := TX8) (N := 14) hx hb htb iX8 hown hK.1 hP 0 rfl rfl 4 (by decide) (htb _ k_276) (fun _ h9 => h9) rfl dX8_sight_47 ?_
            refine lv_iload_n hx hb dX8_sight_50 rfl (lv_at hl 1 rfl) ?_
            refine va_aldq hx hb hK.1 hP 1 4 rfl rfl (g_in rfl (by omega) (by omega)) dX8_sight_51 ?_
            have h_16 : p0.toInt = 0 ∨ p0.toInt = 1 ∨ p0.toInt = 2 ∨ p0.toInt = 3 ∨ p0.toInt = 4 := by omega
            rcases h_16 with h_16 | h_16 | h_16 | h_16 | h_16
            ·
              have h_16e : p0 = 0 := (g_eq rfl t_0).mpr h_16
              refine W_top (y := .ref (a 13)) (by rw [h_16e]; exact congrArg (fun n => Value.ref (a n)) (by decide : 13 + (0 : Int32).toNatClampNeg = 13)) ?_
              refine lv_astore (lv' := [(6, .ref (a 13)), (0, .ref h0), (1, .int p0), (2, .int p1), (3, .int p2), (4, .int p3), (5, .int p4)]) hx hb dX8_sight_52 hl (by decide) rfl (fun ls hl => ?_)
              refine lv_aload hx hb dX8_sight_54 (lv_at hl 0 rfl) ?_
              refine lv_iload_n hx hb dX8_sight_56 rfl (lv_at hl 3 rfl) ?_
              refine callRV (rest := []) (As := [.int p1]) hx hb hml hown htb hK (c_X5_mayBeSighted l D E (a 13) (b 0) p1 ) ok_X5_mayBeSighted k_817 k_818 k_819 k_8 k_820 ⟨(Nat.le_of_ble_eq_true rfl), (Nat.le_of_ble_eq_true rfl)⟩ ⟨(Nat.le_of_ble_eq_true rfl), (Nat.le_of_ble_eq_true rfl)⟩ hl.1 (Nat.le_of_ble_eq_true rfl) rfl rfl dX8_sight_57 (hP.sub (ws' := [((a 13), .inr (5, sF (b 0)))]) [2] rfl) rfl rfl 0 rfl (fun r_18 hw_17 => ?_)
              obtain ⟨hr_18, hw_17⟩ := hw_17
              refine W_top (y := .int 1) (by rw [hr_18]) ?_
              refine lv_if_ne (tgt := 65) hx hb dX8_sight_60 (by decide) (fun c_19 => ?_) (fun c_19 => absurd c_19 (by decide))
              refine lv_aload hx hb dX8_sight_65 (lv_at hl 0 rfl) ?_
              refine va_getN (D := D) (ci := 5) (v := .int 0) (C := RX5) (T := TX5) (N := 11) hx hb htb iX5 hown hK.1 hP 2 rfl rfl 8 (by decide) (va_Nw.use rfl (hK.2.1 (Cond.fieldLinkNest RX8 208 "SeaWatches$Ship" "stage" "I" "SeaWatches") (by decide +kernel))) (fun _ h9 => h9) rfl dX8_sight_67 ?_
              refine lv_iconst (v := 1) hx hb dX8_sight_70 (by decide) ?_
              refine lv_icmp_eq (tgt := 77) hx hb dX8_sight_71 (by decide) (fun c_20 => absurd c_20 (by decide)) (fun c_20 => ?_)
              refine lv_bipush (v := (-4)) hx hb dX8_sight_74 (by decide) ?_
              exact W.iret (v := (-4)) hx hb hr (fun t ht hW => ⟨(-4), rfl, by first | exact Or.inl ⟨rfl, by omega⟩ | (exfalso; omega), ht⟩) (fun q h => by cases h) dX8_sight_76
            ·
              have h_16e : p0 = 1 := (g_eq rfl t_1).mpr h_16
              refine W_top (y := .ref (a 14)) (by rw [h_16e]; exact congrArg (fun n => Value.ref (a n)) (by decide : 13 + (1 : Int32).toNatClampNeg = 14)) ?_
              refine lv_astore (lv' := [(6, .ref (a 14)), (0, .ref h0), (1, .int p0), (2, .int p1), (3, .int p2), (4, .int p3), (5, .int p4)]) hx hb dX8_sight_52 hl (by decide) rfl (fun ls hl => ?_)
              refine lv_aload hx hb dX8_sight_54 (lv_at hl 0 rfl) ?_
              refine lv_iload_n hx hb dX8_sight_56 rfl (lv_at hl 3 rfl) ?_
              refine callRV (rest := []) (As := [.int p1]) hx hb hml hown htb hK (c_X5_mayBeSighted l D E (a 14) (b 1) p1 ) ok_X5_mayBeSighted k_817 k_818 k_819 k_8 k_820 ⟨(Nat.le_of_ble_eq_true rfl), (Nat.le_of_ble_eq_true rfl)⟩ ⟨(Nat.le_of_ble_eq_true rfl), (Nat.le_of_ble_eq_true rfl)⟩ hl.1 (Nat.le_of_ble_eq_true rfl) rfl rfl dX8_sight_57 (hP.sub (ws' := [((a 14), .inr (5, sF (b 1)))]) [3] rfl) rfl rfl 0 rfl (fun r_22 hw_21 => ?_)
              obtain ⟨hr_22, hw_21⟩ := hw_21
              refine W_top (y := .int 1) (by rw [hr_22]) ?_
              refine lv_if_ne (tgt := 65) hx hb dX8_sight_60 (by decide) (fun c_23 => ?_) (fun c_23 => absurd c_23 (by decide))
              refine lv_aload hx hb dX8_sight_65 (lv_at hl 0 rfl) ?_
              refine va_getN (D := D) (ci := 5) (v := .int 0) (C := RX5) (T := TX5) (N := 11) hx hb htb iX5 hown hK.1 hP 3 rfl rfl 8 (by decide) (va_Nw.use rfl (hK.2.1 (Cond.fieldLinkNest RX8 208 "SeaWatches$Ship" "stage" "I" "SeaWatches") (by decide +kernel))) (fun _ h9 => h9) rfl dX8_sight_67 ?_
              refine lv_iconst (v := 1) hx hb dX8_sight_70 (by decide) ?_
              refine lv_icmp_eq (tgt := 77) hx hb dX8_sight_71 (by decide) (fun c_24 => absurd c_24 (by decide)) (fun c_24 => ?_)
              refine lv_bipush (v := (-4)) hx hb dX8_sight_74 (by decide) ?_
              exact W.iret (v := (-4)) hx hb hr (fun t ht hW => ⟨(-4), rfl, by first | exact Or.inl ⟨rfl, by omega⟩ | (exfalso; omega), ht⟩) (fun q h => by cases h) dX8_sight_76
            ·
              have h_16e : p0 = 2 := (g_eq rfl t_2).mpr h_16
              refine W_top (y := .ref (a 15)) (by rw [h_16e]; exact congrArg (fun n => Value.ref (a n)) (by decide : 13 + (2 : Int32).toNatClampNeg = 15)) ?_
              refine lv_astore (lv' := [(6, .ref (a 15)), (0, .ref h0), (1, .int p0), (2, .int p1), (3, .int p2), (4, .int p3), (5, .int p4)]) hx hb dX8_sight_52 hl (by decide) rfl (fun ls hl => ?_)
              refine lv_aload hx hb dX8_sight_54 (lv_at hl 0 rfl) ?_
              refine lv_iload_n hx hb dX8_sight_56 rfl (lv_at hl 3 rfl) ?_
              refine callRV (rest := []) (As := [.int p1]) hx hb hml hown htb hK (c_X5_mayBeSighted l D E (a 15) (b 2) p1 ) ok_X5_mayBeSighted k_817 k_818 k_819 k_8 k_820 ⟨(Nat.le_of_ble_eq_true rfl), (Nat.le_of_ble_eq_true rfl)⟩ ⟨(Nat.le_of_ble_eq_true rfl), (Nat.le_of_ble_eq_true rfl)⟩ hl.1 (Nat.le_of_ble_eq_true rfl) rfl rfl dX8_sight_57 (hP.sub (ws' := [((a 15), .inr (5, sF (b 2)))]) [4] rfl) rfl rfl 0 rfl (fun r_26 hw_25 => ?_)
              obtain ⟨hr_26, hw_25⟩ := hw_25
              refine W_top (y := .int 1) (by rw [hr_26]) ?_
              refine lv_if_ne (tgt := 65) hx hb dX8_sight_60 (by decide) (fun c_27 => ?_) (fun c_27 => absurd c_27 (by decide))
              refine lv_aload hx hb dX8_sight_65 (lv_at hl 0 rfl) ?_
              refine va_getN (D := D) (ci := 5) (v := .int 0) (C := RX5) (T := TX5) (N := 11) hx hb htb iX5 hown hK.1 hP 4 rfl rfl 8 (by decide) (va_Nw.use rfl (hK.2.1 (Cond.fieldLinkNest RX8 208 "SeaWatches$Ship" "stage" "I" "SeaWatches") (by decide +kernel))) (fun _ h9 => h9) rfl dX8_sight_67 ?_
              refine lv_iconst (v := 1) hx hb dX8_sight_70 (by decide) ?_
              refine lv_icmp_eq (tgt := 77) hx hb dX8_sight_71 (by decide) (fun c_28 => absurd c_28 (by decide)) (fun c_28 => ?_)
              refine lv_bipush (v := (-4)) hx hb dX8_sight_74 (by decide) ?_
              exact W.iret (v := (-4)) hx hb hr (fun t ht hW => ⟨(-4), rfl, by first | exact Or.inl ⟨rfl, by omega⟩ | (exfalso; omega), ht⟩) (fun q h => by cases h) dX8_sight_76
            ·
              have h_16e : p0 = 3 := (g_eq rfl t_3).mpr h_16
              refine W_top (y := .ref (a 16)) (by rw [h_16e]; exact congrArg (fun n => Value.ref (a n)) (by decide : 13 + (3 : Int32).toNatClampNeg = 16)) ?_
              refine lv_astore (lv' := [(6, .ref (a 16)), (0, .ref h0), (1, .int p0), (2, .int p1), (3, .int p2), (4, .int p3), (5, .int p4)]) hx hb dX8_sight_52 hl (by decide) rfl (fun ls hl => ?_)
              refine lv_aload hx hb dX8_sight_54 (lv_at hl 0 rfl) ?_
              refine lv_iload_n hx hb dX8_sight_56 rfl (lv_at hl 3 rfl) ?_
              refine callRV (rest := []) (As := [.int p1]) hx hb hml hown htb hK (c_X5_mayBeSighted l D E (a 16) (b 3) p1 ) ok_X5_mayBeSighted k_817 k_818 k_819 k_8 k_820 ⟨(Nat.le_of_ble_eq_true rfl), (Nat.le_of_ble_eq_true rfl)⟩ ⟨(Nat.le_of_ble_eq_true rfl), (Nat.le_of_ble_eq_true rfl)⟩ hl.1 (Nat.le_of_ble_eq_true rfl) rfl rfl dX8_sight_57 (hP.sub (ws' := [((a 16), .inr (5, sF (b 3)))]) [5] rfl) rfl rfl 0 rfl (fun r_30 hw_29 => ?_)
              obtain ⟨hr_30, hw_29⟩ := hw_29
              refine W_top (y := .int 1) (by rw [hr_30]) ?_
              refine lv_if_ne (tgt := 65) hx hb dX8_sight_60 (by decide) (fun c_31 => ?_) (fun c_31 => absurd c_31 (by decide))
              refine lv_aload hx hb dX8_sight_65 (lv_at hl 0 rfl) ?_
              refine va_getN (D := D) (ci := 5) (v := .int 0) (C := RX5) (T := TX5) (N := 11) hx hb htb iX5 hown hK.1 hP 5 rfl rfl 8 (by decide) (va_Nw.use rfl (hK.2.1 (Cond.fieldLinkNest RX8 208 "SeaWatches$Ship" "stage" "I" "SeaWatches") (by decide +kernel))) (fun _ h9 => h9) rfl dX8_sight_67 ?_
              refine lv_iconst (v := 1) hx hb dX8_sight_70 (by decide) ?_
              refine lv_icmp_eq (tgt := 77) hx hb dX8_sight_71 (by decide) (fun c_32 => absurd c_32 (by decide)) (fun c_32 => ?_)
              refine lv_bipush (v := (-4)) hx hb dX8_sight_74 (by decide) ?_
              exact W.iret (v := (-4)) hx hb hr (fun t ht hW => ⟨(-4), rfl, by first | exact Or.inl ⟨rfl, by omega⟩ | (exfalso; omega), ht⟩) (fun q h => by cases h) dX8_sight_76
            ·
              have h_16e : p0 = 4 := (g_eq rfl t_4).mpr h_16
              refine W_top (y := .ref (a 17)) (by rw [h_16e]; exact congrArg (fun n => Value.ref (a n)) (by decide : 13 + (4 : Int32).toNatClampNeg = 17)) ?_
              refine lv_astore (lv' := [(6, .ref (a 17)), (0, .ref h0), (1, .int p0), (2, .int p1), (3, .int p2), (4, .int p3), (5, .int p4)]) hx hb dX8_sight_52 hl (by decide) rfl (fun ls hl => ?_)
              refine lv_aload hx hb dX8_sight_54 (lv_at hl 0 rfl) ?_
              refine lv_iload_n hx hb dX8_sight_56 rfl (lv_at hl 3 rfl) ?_
              refine callRV (rest := []) (As := [.int p1]) hx hb hml hown htb hK (c_X5_mayBeSighted l D E (a 17) (b 4) p1 ) ok_X5_mayBeSighted k_817 k_818 k_819 k_8 k_820 ⟨(Nat.le_of_ble_eq_true rfl), (Nat.le_of_ble_eq_true rfl)⟩ ⟨(Nat.le_of_ble_eq_true rfl), (Nat.le_of_ble_eq_true rfl)⟩ hl.1 (Nat.le_of_ble_eq_true rfl) rfl rfl dX8_sight_57 (hP.sub (ws' := [((a 17), .inr (5, sF (b 4)))]) [6] rfl) rfl rfl 0 rfl (fun r_34 hw_33 => ?_)
              obtain ⟨hr_34, hw_33⟩ := hw_33
              refine W_top (y := .int 1) (by rw [hr_34]) ?_
              refine lv_if_ne (tgt := 65) hx hb dX8_sight_60 (by decide) (fun c_35 => ?_) (fun c_35 => absurd c_35 (by decide))
              refine lv_aload hx hb dX8_sight_65 (lv_at hl 0 rfl) ?_
              refine va_getN (D := D) (ci := 5) (v := .int 0) (C := RX5) (T := TX5) (N := 11) hx hb htb iX5 hown hK.1 hP 6 rfl rfl 8 (by decide) (va_Nw.use rfl (hK.2.1 (Cond.fieldLinkNest RX8 208 "SeaWatches$Ship" "stage" "I" "SeaWatches") (by decide +kernel))) (fun _ h9 => h9) rfl dX8_sight_67 ?_
              refine lv_iconst (v := 1) hx hb dX8_sight_70 (by decide) ?_
              refine lv_icmp_eq (tgt := 77) hx hb dX8_sight_71 (by decide) (fun c_36 => absurd c_36 (by decide)) (fun c_36 => ?_)
              refine lv_bipush (v := (-4)) hx hb dX8_sight_74 (by decide) ?_
              exact W.iret (v := (-4)) hx hb hr (fun t ht hW => ⟨(-4), rfl, by first | exact Or.inl ⟨rfl, by omega⟩ | (exfalso; omega), ht⟩) (fun q h => by cases h) dX8_sight_76
          ·
            try simp only [t_2000000] at hw_13
            refine W_top (y := .int 0) (by rw [hr_14]) ?_
            refine lv_if_ne (tgt := 46) hx hb dX8_sight_41 (by decide) (fun c_37 => absurd (by decide) c_37) (fun c_37 => ?_)
            refine lv_iconst (v := (-1)) hx hb dX8_sight_44 (by decide) ?_
            exact W.iret (v := (-1)) hx hb hr (fun t ht hW => ⟨(-1), rfl, by first | exact Or.inr ⟨rfl, by omega⟩ | (exfalso; omega), ht⟩) (fun q h => by cases h) dX8_sight_45
        ·
          try simp only [t_2000000] at hw_10
          refine W_top (y := .int 0) (by rw [hr_11]) ?_
          refine lv_if_eq (tgt := 44) hx hb dX8_sight_31 (by decide) (fun c_38 => ?_) (fun c_38 => absurd (by decide) c_38)
          refine lv_iconst (v := (-1)) hx hb dX8_sight_44 (by decide) ?_
          exact W.iret (v := (-1)) hx hb hr (fun t ht hW => ⟨(-1), rfl, by first | exact Or.inr ⟨rfl, by omega⟩ | (exfalso; omega), ht⟩) (fun q h => by cases h) dX8_sight_45
      ·
        try simp only [t_2000000] at hw_7
        refine W_top (y := .int 0) (by rw [hr_8]) ?_
        refine lv_if_eq (tgt := 44) hx hb dX8_sight_21 (by decide) (fun c_39 => ?_) (fun c_39 => absurd (by decide) c_39)
        refine lv_iconst (v := (-1)) hx hb dX8_sight_44 (by decide) ?_
        exact W.iret (v := (-1)) hx hb hr (fun t ht hW => ⟨(-1), rfl, by first | exact Or.inr ⟨rfl, by omega⟩ | (exfalso; omega), ht⟩) (fun q h => by cases h) dX8_sight_45
    ·
      refine W_top (y := .int 0) (by rw [hr_5]) ?_
      refine lv_if_eq (tgt := 44) hx hb dX8_sight_12 (by decide) (fun c_40 => ?_) (fun c_40 => absurd (by decide) c_40)
      refine lv_iconst (v := (-1)) hx hb dX8_sight_44 (by decide) ?_
      exact W.iret (v := (-1)) hx hb hr (fun t ht hW => ⟨(-1), rfl, by first | exact Or.inr ⟨rfl, by omega⟩ | (exfalso; omega), ht⟩) (fun q h => by cases h) dX8_sight_45
  ·
    refine W_top (y := .int 0) (by rw [hr_2]) ?_
    refine lv_if_eq (tgt := 44) hx hb dX8_sight_4 (by decide) (fun c_41 => ?_) (fun c_41 => absurd (by decide) c_41)
    refine lv_iconst (v := (-1)) hx hb dX8_sight_44 (by decide) ?_
    exact W.iret (v := (-1)) hx hb hr (fun t ht hW => ⟨(-1), rfl, by first | exact Or.inr ⟨rfl, by omega⟩ | (exfalso; omega), ht⟩) (fun q h => by cases h) dX8_sight_45
set_option maxHeartbeats 4000000 in
set_option maxRecDepth 100000 in
theorem c_X8_told (l : Launch) (D : va_G) (E : Nat → Nat) (h0 : Nat) (a : Nat → Nat) (b : Nat → Nat → Nat) (p0 : Int32) (p1 : Int32) (p2 : Int32)  : Met l yX8_told (wl yX8_told cX8_told 8 (some .int)) (RM 1 0 0) (rd_P D E [.ref h0, .int p0, .int p1, .int p2] [(h0, .inr (8, xF a 0)), ((a 4), .inl (E 4, 5, .inr (.inr (.inr (.inr (fun j => some (a (13 + j)))))))), ((a 13), .inr (5, sF (b 0))), ((a 14), .inr (5, sF (b 1))), ((a 15), .inr (5, sF (b 2))), ((a 16), .inr (5, sF (b 3))), ((a 17), .inr (5, sF (b 4)))]) (rd_Q (fun r => (r = (-2000000000) ∧ True))) 0 0 (fun _ => False) := by
  refine Met.ofW (cc := cX8_told) (maxL := 8) (ret := (some .int)) (by decide) rfl ?_
  intro p e s m args below meth c s₁ B hml hv
  obtain ⟨rfl, hP, hK⟩ := hv
  have hx := B.exec
  have hb := B.bytes
  have hr := B.returns
  have hts := atoms_spec (ws := wl yX8_told cX8_told 8 (some .int)) B.pre
  have htb : ∀ w ∈ tb, w.before _ s = true := fun w h => hts w (List.mem_cons_of_mem _ h)
  have hown : s.vm.findClass RX8 = some m.cls := findClass_of_methodNamed B.named
  have hlocks := B.notSynchronized
  have hP : va_P D vwCl [(h0, .inr (8, xF a 0)), ((a 4), .inl (E 4, 5, .inr (.inr (.inr (.inr (fun j => some (a (13 + j)))))))), ((a 13), .inr (5, sF (b 0))), ((a 14), .inr (5, sF (b 1))), ((a 15), .inr (5, sF (b 2))), ((a 16), .inr (5, sF (b 3))), ((a 17), .inr (5, sF (b 4)))] s.heap := hP
  have hl := lv_entry ([.ref h0, .int p0, .int p1, .int p2]) (n := 8) (Nat.le_of_ble_eq_true rfl)
  rw [lg_entry_eq]
  generalize (lg_sl ([.ref h0, .int p0, .int p1, .int p2]) ++ List.replicate (8 - (lg_sl ([.ref h0, .int p0, .int p1, .int p2])).length) Slot.unset).toArray = ls at hl ⊢
  have hl : lv_has ls 8 [(0, .ref h0), (1, .int p0), (2, .int p1), (3, .int p2)] := hl
  have lo_p0 := i_lo p0
  have hi_p0 := i_hi p0
  have lo_p1 := i_lo p1
  have hi_p1 := i_hi p1
  have lo_p2 := i_lo p2
  have hi_p2 := i_hi p2
  refine lv_iload_n hx hb dX8_told_0 rfl (lv_at hl 1 rfl) ?_
  refine callRS (rest := []) (As := [.int p0]) hx hb hml hown htb hK (c_X8_isShip l D E p0 ) ok_X8_isShip k_773 k_774 k_1 k_775 ⟨(Nat.le_of_ble_eq_true rfl), (Nat.le_of_ble_eq_true rfl)⟩ ⟨(Nat.le_of_ble_eq_true rfl), (Nat.le_of_ble_eq_true rfl)⟩ hl.1 (Nat.le_of_ble_eq_true rfl) rfl rfl dX8_told_1 (hP.sub (ws' := ([] : va_W)) [] rfl) (fun r_2 hw_1 => ?_)
  rcases hw_1 with ⟨hr_2, hw_1⟩ | ⟨hr_2, hw_1⟩
  ·
    refine W_top (y := .int 1) (by rw [hr_2]) ?_
    refine lv_if_eq (tgt := 34) hx hb dX8_told_4 (by decide) (fun c_3 => absurd c_3 (by decide)) (fun c_3 => ?_)
    refine lv_iload_n hx hb dX8_told_7 rfl (lv_at hl 2 rfl) ?_
    refine lv_if_lt (tgt := 34) hx hb dX8_told_8 (by decide) (fun c_4 => ?_) (fun c_4 => ?_)
    ·
      have ic_4 : p1.toInt < 0 := by first | exact (g_lt rfl t_0).mp c_4 | (have h := mt (g_le t_0 rfl).mpr c_4; omega)
      refine lv_ldc hx hb hown (htb _ k_386) dX8_told_34 ?_
      exact W.iret (v := (-2000000000)) hx hb hr (fun t ht hW => ⟨(-2000000000), rfl, ⟨rfl, trivial⟩, ht⟩) (fun q h => by cases h) dX8_told_36
    ·
      have ic_4 : 0 ≤ p1.toInt := by first | exact (g_le t_0 rfl).mp c_4 | (have h := mt (g_lt rfl t_0).mpr c_4; omega)
      refine lv_iload_n hx hb dX8_told_11 rfl (lv_at hl 2 rfl) ?_
      refine lv_aload_n hx hb dX8_told_12 rfl (lv_at hl 0 rfl) ?_
      refine va_get (D := D) (ci := 8) (v := .ref (a 4)) (C := RX8) (T := TX8) (N := 14) hx hb htb iX8 hown hK.1 hP 0 rfl rfl 4 (by decide) (htb _ k_276) (fun _ h9 => h9) rfl dX8_told_13 ?_
      refine lv_iload_n hx hb dX8_told_16 rfl (lv_at hl 1 rfl) ?_
      refine va_aldq hx hb hK.1 hP 1 4 rfl rfl (g_in rfl (by omega) (by omega)) dX8_told_17 ?_
      have h_5 : p0.toInt = 0 ∨ p0.toInt = 1 ∨ p0.toInt = 2 ∨ p0.toInt = 3 ∨ p0.toInt = 4 := by omega
      rcases h_5 with h_5 | h_5 | h_5 | h_5 | h_5
      ·
        have h_5e : p0 = 0 := (g_eq rfl t_0).mpr h_5
        refine W_top (y := .ref (a 13)) (by rw [h_5e]; exact congrArg (fun n => Value.ref (a n)) (by decide : 13 + (0 : Int32).toNatClampNeg = 13)) ?_
        refine va_getN (D := D) (ci := 5) (v := .int 0) (C := RX5) (T := TX5) (N := 11) hx hb htb iX5 hown hK.1 hP 2 rfl rfl 7 (by decide) (va_Nw.use rfl (hK.2.1 (Cond.fieldLinkNest RX8 236 "SeaWatches$Ship" "sights" "I" "SeaWatches") (by decide +kernel))) (fun _ h9 => h9) rfl dX8_told_18 ?_
        refine lv_icmp_ge (tgt := 34) hx hb dX8_told_21 (by decide) (fun c_6 => ?_) (fun c_6 => absurd (by rw [g_le t_0 rfl]; omega) c_6)
        refine lv_ldc hx hb hown (htb _ k_386) dX8_told_34 ?_
        exact W.iret (v := (-2000000000)) hx hb hr (fun t ht hW => ⟨(-2000000000), rfl, ⟨rfl, trivial⟩, ht⟩) (fun q h => by cases h) dX8_told_36
      ·
        have h_5e : p0 = 1 := (g_eq rfl t_1).mpr h_5
        refine W_top (y := .ref (a 14)) (by rw [h_5e]; exact congrArg (fun n => Value.ref (a n)) (by decide : 13 + (1 : Int32).toNatClampNeg = 14)) ?_
        refine va_getN (D := D) (ci := 5) (v := .int 0) (C := RX5) (T := TX5) (N := 11) hx hb htb iX5 hown hK.1 hP 3 rfl rfl 7 (by decide) (va_Nw.use rfl (hK.2.1 (Cond.fieldLinkNest RX8 236 "SeaWatches$Ship" "sights" "I" "SeaWatches") (by decide +kernel))) (fun _ h9 => h9) rfl dX8_told_18 ?_
        refine lv_icmp_ge (tgt := 34) hx hb dX8_told_21 (by decide) (fun c_7 => ?_) (fun c_7 => absurd (by rw [g_le t_0 rfl]; omega) c_7)
        refine lv_ldc hx hb hown (htb _ k_386) dX8_told_34 ?_
        exact W.iret (v := (-2000000000)) hx hb hr (fun t ht hW => ⟨(-2000000000), rfl, ⟨rfl, trivial⟩, ht⟩) (fun q h => by cases h) dX8_told_36
      ·
        have h_5e : p0 = 2 := (g_eq rfl t_2).mpr h_5
        refine W_top (y := .ref (a 15)) (by rw [h_5e]; exact congrArg (fun n => Value.ref (a n)) (by decide : 13 + (2 : Int32).toNatClampNeg = 15)) ?_
        refine va_getN (D := D) (ci := 5) (v := .int 0) (C := RX5) (T := TX5) (N := 11) hx hb htb iX5 hown hK.1 hP 4 rfl rfl 7 (by decide) (va_Nw.use rfl (hK.2.1 (Cond.fieldLinkNest RX8 236 "SeaWatches$Ship" "sights" "I" "SeaWatches") (by decide +kernel))) (fun _ h9 => h9) rfl dX8_told_18 ?_
        refine lv_icmp_ge (tgt := 34) hx hb dX8_told_21 (by decide) (fun c_8 => ?_) (fun c_8 => absurd (by rw [g_le t_0 rfl]; omega) c_8)
        refine lv_ldc hx hb hown (htb _ k_386) dX8_told_34 ?_
        exact W.iret (v := (-2000000000)) hx hb hr (fun t ht hW => ⟨(-2000000000), rfl, ⟨rfl, trivial⟩, ht⟩) (fun q h => by cases h) dX8_told_36
      ·
        have h_5e : p0 = 3 := (g_eq rfl t_3).mpr h_5
        refine W_top (y := .ref (a 16)) (by rw [h_5e]; exact congrArg (fun n => Value.ref (a n)) (by decide : 13 + (3 : Int32).toNatClampNeg = 16)) ?_
        refine va_getN (D := D) (ci := 5) (v := .int 0) (C := RX5) (T := TX5) (N := 11) hx hb htb iX5 hown hK.1 hP 5 rfl rfl 7 (by decide) (va_Nw.use rfl (hK.2.1 (Cond.fieldLinkNest RX8 236 "SeaWatches$Ship" "sights" "I" "SeaWatches") (by decide +kernel))) (fun _ h9 => h9) rfl dX8_told_18 ?_
        refine lv_icmp_ge (tgt := 34) hx hb dX8_told_21 (by decide) (fun c_9 => ?_) (fun c_9 => absurd (by rw [g_le t_0 rfl]; omega) c_9)
        refine lv_ldc hx hb hown (htb _ k_386) dX8_told_34 ?_
        exact W.iret (v := (-2000000000)) hx hb hr (fun t ht hW => ⟨(-2000000000), rfl, ⟨rfl, trivial⟩, ht⟩) (fun q h => by cases h) dX8_told_36
      ·
        have h_5e : p0 = 4 := (g_eq rfl t_4).mpr h_5
        refine W_top (y := .ref (a 17)) (by rw [h_5e]; exact congrArg (fun n => Value.ref (a n)) (by decide : 13 + (4 : Int32).toNatClampNeg = 17)) ?_
        refine va_getN (D := D) (ci := 5) (v := .int 0) (C := RX5) (T := TX5) (N := 11) hx hb htb iX5 hown hK.1 hP 6 rfl rfl 7 (by decide) (va_Nw.use rfl (hK.2.1 (Cond.fieldLinkNest RX8 236 "SeaWatches$Ship" "sights" "I" "SeaWatches") (by decide +kernel))) (fun _ h9 => h9) rfl dX8_told_18 ?_
        refine lv_icmp_ge (tgt := 34) hx hb dX8_told_21 (by decide) (fun c_10 => ?_) (fun c_10 => absurd (by rw [g_le t_0 rfl]; omega) c_10)
        refine lv_ldc hx hb hown (htb _ k_386) dX8_told_34 ?_
        exact W.iret (v := (-2000000000)) hx hb hr (fun t ht hW => ⟨(-2000000000), rfl, ⟨rfl, trivial⟩, ht⟩) (fun q h => by cases h) dX8_told_36
  ·
    refine W_top (y := .int 0) (by rw [hr_2]) ?_
    refine lv_if_eq (tgt := 34) hx hb dX8_told_4 (by decide) (fun c_11 => ?_) (fun c_11 => absurd (by decide) c_11)
    refine lv_ldc hx hb hown (htb _ k_386) dX8_told_34 ?_
    exact W.iret (v := (-2000000000)) hx hb hr (fun t ht hW => ⟨(-2000000000), rfl, ⟨rfl, trivial⟩, ht⟩) (fun q h => by cases h) dX8_told_36
set_option maxHeartbeats 4000000 in
set_option maxRecDepth 100000 in
theorem c_X8_back (l : Launch) (D : va_G) (E : Nat → Nat) (h0 : Nat) (a : Nat → Nat) (b : Nat → Nat → Nat) (p0 : Int32) (p1 : Int32) (p2 : Int32) (p3 : Int32)  : Met l yX8_back (wl yX8_back cX8_back 6 (some .int)) (RM 1 0 0) (rd_P D E [.ref h0, .int p0, .int p1, .int p2, .int p3] [(h0, .inr (8, xF a 0)), ((a 4), .inl (E 4, 5, .inr (.inr (.inr (.inr (fun j => some (a (13 + j)))))))), ((a 13), .inr (5, sF (b 0))), ((a 14), .inr (5, sF (b 1))), ((a 15), .inr (5, sF (b 2))), ((a 16), .inr (5, sF (b 3))), ((a 17), .inr (5, sF (b 4)))]) (rd_Q (fun r => (r = (-4) ∧ ((0 ≤ p0.toInt ∧ p0.toInt ≤ 4) ∧ (-100000 ≤ p1.toInt ∧ p1.toInt ≤ 100000) ∧ (-100000 ≤ p2.toInt ∧ p2.toInt ≤ 100000) ∧ (-100000 ≤ p3.toInt ∧ p3.toInt ≤ 100000))) ∨ (r = (-1) ∧ ¬ ((0 ≤ p0.toInt ∧ p0.toInt ≤ 4) ∧ (-100000 ≤ p1.toInt ∧ p1.toInt ≤ 100000) ∧ (-100000 ≤ p2.toInt ∧ p2.toInt ≤ 100000) ∧ (-100000 ≤ p3.toInt ∧ p3.toInt ≤ 100000))))) 0 0 (fun _ => False) := by
  refine Met.ofW (cc := cX8_back) (maxL := 6) (ret := (some .int)) (by decide) rfl ?_
  intro p e s m args below meth c s₁ B hml hv
  obtain ⟨rfl, hP, hK⟩ := hv
  have hx := B.exec
  have hb := B.bytes
  have hr := B.returns
  have hts := atoms_spec (ws := wl yX8_back cX8_back 6 (some .int)) B.pre
  have htb : ∀ w ∈ tb, w.before _ s = true := fun w h => hts w (List.mem_cons_of_mem _ h)
  have hown : s.vm.findClass RX8 = some m.cls := findClass_of_methodNamed B.named
  have hlocks := B.notSynchronized
  have hP : va_P D vwCl [(h0, .inr (8, xF a 0)), ((a 4), .inl (E 4, 5, .inr (.inr (.inr (.inr (fun j => some (a (13 + j)))))))), ((a 13), .inr (5, sF (b 0))), ((a 14), .inr (5, sF (b 1))), ((a 15), .inr (5, sF (b 2))), ((a 16), .inr (5, sF (b 3))), ((a 17), .inr (5, sF (b 4)))] s.heap := hP
  have hl := lv_entry ([.ref h0, .int p0, .int p1, .int p2, .int p3]) (n := 6) (Nat.le_of_ble_eq_true rfl)
  rw [lg_entry_eq]
  generalize (lg_sl ([.ref h0, .int p0, .int p1, .int p2, .int p3]) ++ List.replicate (6 - (lg_sl ([.ref h0, .int p0, .int p1, .int p2, .int p3])).length) Slot.unset).toArray = ls at hl ⊢
  have hl : lv_has ls 6 [(0, .ref h0), (1, .int p0), (2, .int p1), (3, .int p2), (4, .int p3)] := hl
  have lo_p0 := i_lo p0
  have hi_p0 := i_hi p0
  have lo_p1 := i_lo p1
  have hi_p1 := i_hi p1
  have lo_p2 := i_lo p2
  have hi_p2 := i_hi p2
  have lo_p3 := i_lo p3
  have hi_p3 := i_hi p3
  refine lv_iload_n hx hb dX8_back_0 rfl (lv_at hl 1 rfl) ?_
  refine callRS (rest := []) (As := [.int p0]) hx hb hml hown htb hK (c_X8_isShip l D E p0 ) ok_X8_isShip k_773 k_774 k_1 k_775 ⟨(Nat.le_of_ble_eq_true rfl), (Nat.le_of_ble_eq_true rfl)⟩ ⟨(Nat.le_of_ble_eq_true rfl), (Nat.le_of_ble_eq_true rfl)⟩ hl.1 (Nat.le_of_ble_eq_true rfl) rfl rfl dX8_back_1 (hP.sub (ws' := ([] : va_W)) [] rfl) (fun r_2 hw_1 => ?_)
  rcases hw_1 with ⟨hr_2, hw_1⟩ | ⟨hr_2, hw_1⟩
  ·
    refine W_top (y := .int 1) (by rw [hr_2]) ?_
    refine lv_if_eq (tgt := 35) hx hb dX8_back_4 (by decide) (fun c_3 => absurd c_3 (by decide)) (fun c_3 => ?_)
    refine lv_iload_n hx hb dX8_back_7 rfl (lv_at hl 2 rfl) ?_
    refine lv_ldc hx hb hown (htb _ k_395) dX8_back_8 ?_
    refine callRS (rest := []) (As := [.int p1, .int 100000]) hx hb hml hown htb hK (c_X8_isWithin l D E p1 100000 (by decide)) ok_X8_isWithin k_326 k_327 k_1 k_328 ⟨(Nat.le_of_ble_eq_true rfl), (Nat.le_of_ble_eq_true rfl)⟩ ⟨(Nat.le_of_ble_eq_true rfl), (Nat.le_of_ble_eq_true rfl)⟩ hl.1 (Nat.le_of_ble_eq_true rfl) rfl rfl dX8_back_10 (hP.sub (ws' := ([] : va_W)) [] rfl) (fun r_5 hw_4 => ?_)
    rcases hw_4 with ⟨hr_5, hw_4⟩ | ⟨hr_5, hw_4⟩
    ·
      try simp only [t_100000] at hw_4
      refine W_top (y := .int 1) (by rw [hr_5]) ?_
      refine lv_if_eq (tgt := 35) hx hb dX8_back_13 (by decide) (fun c_6 => absurd c_6 (by decide)) (fun c_6 => ?_)
      refine lv_iload_n hx hb dX8_back_16 rfl (lv_at hl 3 rfl) ?_
      refine lv_ldc hx hb hown (htb _ k_395) dX8_back_17 ?_
      refine callRS (rest := []) (As := [.int p2, .int 100000]) hx hb hml hown htb hK (c_X8_isWithin l D E p2 100000 (by decide)) ok_X8_isWithin k_326 k_327 k_1 k_328 ⟨(Nat.le_of_ble_eq_true rfl), (Nat.le_of_ble_eq_true rfl)⟩ ⟨(Nat.le_of_ble_eq_true rfl), (Nat.le_of_ble_eq_true rfl)⟩ hl.1 (Nat.le_of_ble_eq_true rfl) rfl rfl dX8_back_19 (hP.sub (ws' := ([] : va_W)) [] rfl) (fun r_8 hw_7 => ?_)
      rcases hw_7 with ⟨hr_8, hw_7⟩ | ⟨hr_8, hw_7⟩
      ·
        try simp only [t_100000] at hw_7
        refine W_top (y := .int 1) (by rw [hr_8]) ?_
        refine lv_if_eq (tgt := 35) hx hb dX8_back_22 (by decide) (fun c_9 => absurd c_9 (by decide)) (fun c_9 => ?_)
        refine lv_iload hx hb dX8_back_25 (lv_at hl 4 rfl) ?_
        refine lv_ldc hx hb hown (htb _ k_395) dX8_back_27 ?_
        refine callRS (rest := []) (As := [.int p3, .int 100000]) hx hb hml hown htb hK (c_X8_isWithin l D E p3 100000 (by decide)) ok_X8_isWithin k_326 k_327 k_1 k_328 ⟨(Nat.le_of_ble_eq_true rfl), (Nat.le_of_ble_eq_true rfl)⟩ ⟨(Nat.le_of_ble_eq_true rfl), (Nat.le_of_ble_eq_true rfl)⟩ hl.1 (Nat.le_of_ble_eq_true rfl) rfl rfl dX8_back_29 (hP.sub (ws' := ([] : va_W)) [] rfl) (fun r_11 hw_10 => ?_)
        rcases hw_10 with ⟨hr_11, hw_10⟩ | ⟨hr_11, hw_10⟩
        ·
          try simp only [t_100000] at hw_10
          refine W_top (y := .int 1) (by rw [hr_11]) ?_
          refine lv_if_ne (tgt := 37) hx hb dX8_back_32 (by decide) (fun c_12 => ?_) (fun c_12 => absurd c_12 (by decide))
          refine lv_aload_n hx hb dX8_back_37 rfl (lv_at hl 0 rfl) ?_
          refine va_get (D := D) (ci := 8) (v := .ref (a 4)) (C := RX8) (T := TX8) (N := 14) hx hb htb iX8 hown hK.1 hP 0 rfl rfl 4 (by decide) (htb _ k_276) (fun _ h9 => h9) rfl dX8_back_38 ?_
          refine lv_iload_n hx hb dX8_back_41 rfl (lv_at hl 1 rfl) ?_
          refine va_aldq hx hb hK.1 hP 1 4 rfl rfl (g_in rfl (by omega) (by omega)) dX8_back_42 ?_
          have h_13 : p0.toInt = 0 ∨ p0.toInt = 1 ∨ p0.toInt = 2 ∨ p0.toInt = 3 ∨ p0.toInt = 4 := by omega
          rcases h_13 with h_13 | h_13 | h_13 | h_13 | h_13
          ·
            have h_13e : p0 = 0 := (g_eq rfl t_0).mpr h_13
            refine W_top (y := .ref (a 13)) (by rw [h_13e]; exact congrArg (fun n => Value.ref (a n)) (by decide : 13 + (0 : Int32).toNatClampNeg = 13)) ?_
            refine lv_astore (lv' := [(5, .ref (a 13)), (0, .ref h0), (1, .int p0), (2, .int p1), (3, .int p2), (4, .int p3)]) hx hb dX8_back_43 hl (by decide) rfl (fun ls hl => ?_)
            refine lv_aload hx hb dX8_back_45 (lv_at hl 0 rfl) ?_
            refine va_getN (D := D) (ci := 5) (v := .int 0) (C := RX5) (T := TX5) (N := 11) hx hb htb iX5 hown hK.1 hP 2 rfl rfl 8 (by decide) (va_Nw.use rfl (hK.2.1 (Cond.fieldLinkNest RX8 208 "SeaWatches$Ship" "stage" "I" "SeaWatches") (by decide +kernel))) (fun _ h9 => h9) rfl dX8_back_47 ?_
            refine lv_iconst (v := 1) hx hb dX8_back_50 (by decide) ?_
            refine lv_icmp_ne (tgt := 66) hx hb dX8_back_51 (by decide) (fun c_14 => ?_) (fun c_14 => absurd c_14 (by decide))
            refine lv_bipush (v := (-4)) hx hb dX8_back_66 (by decide) ?_
            exact W.iret (v := (-4)) hx hb hr (fun t ht hW => ⟨(-4), rfl, by first | exact Or.inl ⟨rfl, by omega⟩ | (exfalso; omega), ht⟩) (fun q h => by cases h) dX8_back_68
          ·
            have h_13e : p0 = 1 := (g_eq rfl t_1).mpr h_13
            refine W_top (y := .ref (a 14)) (by rw [h_13e]; exact congrArg (fun n => Value.ref (a n)) (by decide : 13 + (1 : Int32).toNatClampNeg = 14)) ?_
            refine lv_astore (lv' := [(5, .ref (a 14)), (0, .ref h0), (1, .int p0), (2, .int p1), (3, .int p2), (4, .int p3)]) hx hb dX8_back_43 hl (by decide) rfl (fun ls hl => ?_)
            refine lv_aload hx hb dX8_back_45 (lv_at hl 0 rfl) ?_
            refine va_getN (D := D) (ci := 5) (v := .int 0) (C := RX5) (T := TX5) (N := 11) hx hb htb iX5 hown hK.1 hP 3 rfl rfl 8 (by decide) (va_Nw.use rfl (hK.2.1 (Cond.fieldLinkNest RX8 208 "SeaWatches$Ship" "stage" "I" "SeaWatches") (by decide +kernel))) (fun _ h9 => h9) rfl dX8_back_47 ?_
            refine lv_iconst (v := 1) hx hb dX8_back_50 (by decide) ?_
            refine lv_icmp_ne (tgt := 66) hx hb dX8_back_51 (by decide) (fun c_15 => ?_) (fun c_15 => absurd c_15 (by decide))
            refine lv_bipush (v := (-4)) hx hb dX8_back_66 (by decide) ?_
            exact W.iret (v := (-4)) hx hb hr (fun t ht hW => ⟨(-4), rfl, by first | exact Or.inl ⟨rfl, by omega⟩ | (exfalso; omega), ht⟩) (fun q h => by cases h) dX8_back_68
          ·
            have h_13e : p0 = 2 := (g_eq rfl t_2).mpr h_13
            refine W_top (y := .ref (a 15)) (by rw [h_13e]; exact congrArg (fun n => Value.ref (a n)) (by decide : 13 + (2 : Int32).toNatClampNeg = 15)) ?_
            refine lv_astore (lv' := [(5, .ref (a 15)), (0, .ref h0), (1, .int p0), (2, .int p1), (3, .int p2), (4, .int p3)]) hx hb dX8_back_43 hl (by decide) rfl (fun ls hl => ?_)
            refine lv_aload hx hb dX8_back_45 (lv_at hl 0 rfl) ?_
            refine va_getN (D := D) (ci := 5) (v := .int 0) (C := RX5) (T := TX5) (N := 11) hx hb htb iX5 hown hK.1 hP 4 rfl rfl 8 (by decide) (va_Nw.use rfl (hK.2.1 (Cond.fieldLinkNest RX8 208 "SeaWatches$Ship" "stage" "I" "SeaWatches") (by decide +kernel))) (fun _ h9 => h9) rfl dX8_back_47 ?_
            refine lv_iconst (v := 1) hx hb dX8_back_50 (by decide) ?_
            refine lv_icmp_ne (tgt := 66) hx hb dX8_back_51 (by decide) (fun c_16 => ?_) (fun c_16 => absurd c_16 (by decide))
            refine lv_bipush (v := (-4)) hx hb dX8_back_66 (by decide) ?_
            exact W.iret (v := (-4)) hx hb hr (fun t ht hW => ⟨(-4), rfl, by first | exact Or.inl ⟨rfl, by omega⟩ | (exfalso; omega), ht⟩) (fun q h => by cases h) dX8_back_68
          ·
            have h_13e : p0 = 3 := (g_eq rfl t_3).mpr h_13
            refine W_top (y := .ref (a 16)) (by rw [h_13e]; exact congrArg (fun n => Value.ref (a n)) (by decide : 13 + (3 : Int32).toNatClampNeg = 16)) ?_
            refine lv_astore (lv' := [(5, .ref (a 16)), (0, .ref h0), (1, .int p0), (2, .int p1), (3, .int p2), (4, .int p3)]) hx hb dX8_back_43 hl (by decide) rfl (fun ls hl => ?_)
            refine lv_aload hx hb dX8_back_45 (lv_at hl 0 rfl) ?_
            refine va_getN (D := D) (ci := 5) (v := .int 0) (C := RX5) (T := TX5) (N := 11) hx hb htb iX5 hown hK.1 hP 5 rfl rfl 8 (by decide) (va_Nw.use rfl (hK.2.1 (Cond.fieldLinkNest RX8 208 "SeaWatches$Ship" "stage" "I" "SeaWatches") (by decide +kernel))) (fun _ h9 => h9) rfl dX8_back_47 ?_
            refine lv_iconst (v := 1) hx hb dX8_back_50 (by decide) ?_
            refine lv_icmp_ne (tgt := 66) hx hb dX8_back_51 (by decide) (fun c_17 => ?_) (fun c_17 => absurd c_17 (by decide))
            refine lv_bipush (v := (-4)) hx hb dX8_back_66 (by decide) ?_
            exact W.iret (v := (-4)) hx hb hr (fun t ht hW => ⟨(-4), rfl, by first | exact Or.inl ⟨rfl, by omega⟩ | (exfalso; omega), ht⟩) (fun q h => by cases h) dX8_back_68
          ·
            have h_13e : p0 = 4 := (g_eq rfl t_4).mpr h_13
            refine W_top (y := .ref (a 17)) (by rw [h_13e]; exact congrArg (fun n => Value.ref (a n)) (by decide : 13 + (4 : Int32).toNatClampNeg = 17)) ?_
            refine lv_astore (lv' := [(5, .ref (a 17)), (0, .ref h0), (1, .int p0), (2, .int p1), (3, .int p2), (4, .int p3)]) hx hb dX8_back_43 hl (by decide) rfl (fun ls hl => ?_)
            refine lv_aload hx hb dX8_back_45 (lv_at hl 0 rfl) ?_
            refine va_getN (D := D) (ci := 5) (v := .int 0) (C := RX5) (T := TX5) (N := 11) hx hb htb iX5 hown hK.1 hP 6 rfl rfl 8 (by decide) (va_Nw.use rfl (hK.2.1 (Cond.fieldLinkNest RX8 208 "SeaWatches$Ship" "stage" "I" "SeaWatches") (by decide +kernel))) (fun _ h9 => h9) rfl dX8_back_47 ?_
            refine lv_iconst (v := 1) hx hb dX8_back_50 (by decide) ?_
            refine lv_icmp_ne (tgt := 66) hx hb dX8_back_51 (by decide) (fun c_18 => ?_) (fun c_18 => absurd c_18 (by decide))
            refine lv_bipush (v := (-4)) hx hb dX8_back_66 (by decide) ?_
            exact W.iret (v := (-4)) hx hb hr (fun t ht hW => ⟨(-4), rfl, by first | exact Or.inl ⟨rfl, by omega⟩ | (exfalso; omega), ht⟩) (fun q h => by cases h) dX8_back_68
        ·
          try simp only [t_100000] at hw_10
          refine W_top (y := .int 0) (by rw [hr_11]) ?_
          refine lv_if_ne (tgt := 37) hx hb dX8_back_32 (by decide) (fun c_19 => absurd (by decide) c_19) (fun c_19 => ?_)
          refine lv_iconst (v := (-1)) hx hb dX8_back_35 (by decide) ?_
          exact W.iret (v := (-1)) hx hb hr (fun t ht hW => ⟨(-1), rfl, by first | exact Or.inr ⟨rfl, by omega⟩ | (exfalso; omega), ht⟩) (fun q h => by cases h) dX8_back_36
      ·
        try simp only [t_100000] at hw_7
        refine W_top (y := .int 0) (by rw [hr_8]) ?_
        refine lv_if_eq (tgt := 35) hx hb dX8_back_22 (by decide) (fun c_20 => ?_) (fun c_20 => absurd (by decide) c_20)
        refine lv_iconst (v := (-1)) hx hb dX8_back_35 (by decide) ?_
        exact W.iret (v := (-1)) hx hb hr (fun t ht hW => ⟨(-1), rfl, by first | exact Or.inr ⟨rfl, by omega⟩ | (exfalso; omega), ht⟩) (fun q h => by cases h) dX8_back_36
    ·
      try simp only [t_100000] at hw_4
      refine W_top (y := .int 0) (by rw [hr_5]) ?_
      refine lv_if_eq (tgt := 35) hx hb dX8_back_13 (by decide) (fun c_21 => ?_) (fun c_21 => absurd (by decide) c_21)
      refine lv_iconst (v := (-1)) hx hb dX8_back_35 (by decide) ?_
      exact W.iret (v := (-1)) hx hb hr (fun t ht hW => ⟨(-1), rfl, by first | exact Or.inr ⟨rfl, by omega⟩ | (exfalso; omega), ht⟩) (fun q h => by cases h) dX8_back_36
  ·
    refine W_top (y := .int 0) (by rw [hr_2]) ?_
    refine lv_if_eq (tgt := 35) hx hb dX8_back_4 (by decide) (fun c_22 => ?_) (fun c_22 => absurd (by decide) c_22)
    refine lv_iconst (v := (-1)) hx hb dX8_back_35 (by decide) ?_
    exact W.iret (v := (-1)) hx hb hr (fun t ht hW => ⟨(-1), rfl, by first | exact Or.inr ⟨rfl, by omega⟩ | (exfalso; omega), ht⟩) (fun q h => by cases h) dX8_back_36
set_option maxHeartbeats 4000000 in
set_option maxRecDepth 100000 in
theorem c_X8_state (l : Launch) (D : va_G) (E : Nat → Nat) (h0 : Nat) (a : Nat → Nat) (b : Nat → Nat → Nat) (p0 : Int32)  : Met l yX8_state (wl yX8_state cX8_state 2 (some .int)) (RM 1 0 0) (rd_P D E [.ref h0, .int p0] [(h0, .inr (8, xF a 0)), ((a 4), .inl (E 4, 5, .inr (.inr (.inr (.inr (fun j => some (a (13 + j)))))))), ((a 13), .inr (5, sF (b 0))), ((a 14), .inr (5, sF (b 1))), ((a 15), .inr (5, sF (b 2))), ((a 16), .inr (5, sF (b 3))), ((a 17), .inr (5, sF (b 4)))]) (rd_Q (fun r => (r = 0 ∧ (0 ≤ p0.toInt ∧ p0.toInt ≤ 4)) ∨ (r = (-1) ∧ ¬ (0 ≤ p0.toInt ∧ p0.toInt ≤ 4)))) 0 0 (fun _ => False) := by
  refine Met.ofW (cc := cX8_state) (maxL := 2) (ret := (some .int)) (by decide) rfl ?_
  intro p e s m args below meth c s₁ B hml hv
  obtain ⟨rfl, hP, hK⟩ := hv
  have hx := B.exec
  have hb := B.bytes
  have hr := B.returns
  have hts := atoms_spec (ws := wl yX8_state cX8_state 2 (some .int)) B.pre
  have htb : ∀ w ∈ tb, w.before _ s = true := fun w h => hts w (List.mem_cons_of_mem _ h)
  have hown : s.vm.findClass RX8 = some m.cls := findClass_of_methodNamed B.named
  have hlocks := B.notSynchronized
  have hP : va_P D vwCl [(h0, .inr (8, xF a 0)), ((a 4), .inl (E 4, 5, .inr (.inr (.inr (.inr (fun j => some (a (13 + j)))))))), ((a 13), .inr (5, sF (b 0))), ((a 14), .inr (5, sF (b 1))), ((a 15), .inr (5, sF (b 2))), ((a 16), .inr (5, sF (b 3))), ((a 17), .inr (5, sF (b 4)))] s.heap := hP
  have hl := lv_entry ([.ref h0, .int p0]) (n := 2) (Nat.le_of_ble_eq_true rfl)
  rw [lg_entry_eq]
  generalize (lg_sl ([.ref h0, .int p0]) ++ List.replicate (2 - (lg_sl ([.ref h0, .int p0])).length) Slot.unset).toArray = ls at hl ⊢
  have hl : lv_has ls 2 [(0, .ref h0), (1, .int p0)] := hl
  have lo_p0 := i_lo p0
  have hi_p0 := i_hi p0
  refine lv_iload_n hx hb dX8_state_0 rfl (lv_at hl 1 rfl) ?_
  refine callRS (rest := []) (As := [.int p0]) hx hb hml hown htb hK (c_X8_isShip l D E p0 ) ok_X8_isShip k_773 k_774 k_1 k_775 ⟨(Nat.le_of_ble_eq_true rfl), (Nat.le_of_ble_eq_true rfl)⟩ ⟨(Nat.le_of_ble_eq_true rfl), (Nat.le_of_ble_eq_true rfl)⟩ hl.1 (Nat.le_of_ble_eq_true rfl) rfl rfl dX8_state_1 (hP.sub (ws' := ([] : va_W)) [] rfl) (fun r_2 hw_1 => ?_)
  rcases hw_1 with ⟨hr_2, hw_1⟩ | ⟨hr_2, hw_1⟩
  ·
    refine W_top (y := .int 1) (by rw [hr_2]) ?_
    refine lv_if_eq (tgt := 19) hx hb dX8_state_4 (by decide) (fun c_3 => absurd c_3 (by decide)) (fun c_3 => ?_)
    refine lv_aload_n hx hb dX8_state_7 rfl (lv_at hl 0 rfl) ?_
    refine va_get (D := D) (ci := 8) (v := .ref (a 4)) (C := RX8) (T := TX8) (N := 14) hx hb htb iX8 hown hK.1 hP 0 rfl rfl 4 (by decide) (htb _ k_276) (fun _ h9 => h9) rfl dX8_state_8 ?_
    refine lv_iload_n hx hb dX8_state_11 rfl (lv_at hl 1 rfl) ?_
    refine va_aldq hx hb hK.1 hP 1 4 rfl rfl (g_in rfl (by omega) (by omega)) dX8_state_12 ?_
    have h_4 : p0.toInt = 0 ∨ p0.toInt = 1 ∨ p0.toInt = 2 ∨ p0.toInt = 3 ∨ p0.toInt = 4 := by omega
    rcases h_4 with h_4 | h_4 | h_4 | h_4 | h_4
    ·
      have h_4e : p0 = 0 := (g_eq rfl t_0).mpr h_4
      refine W_top (y := .ref (a 13)) (by rw [h_4e]; exact congrArg (fun n => Value.ref (a n)) (by decide : 13 + (0 : Int32).toNatClampNeg = 13)) ?_
      refine va_getN (D := D) (ci := 5) (v := .int 0) (C := RX5) (T := TX5) (N := 11) hx hb htb iX5 hown hK.1 hP 2 rfl rfl 8 (by decide) (va_Nw.use rfl (hK.2.1 (Cond.fieldLinkNest RX8 208 "SeaWatches$Ship" "stage" "I" "SeaWatches") (by decide +kernel))) (fun _ h9 => h9) rfl dX8_state_13 ?_
      refine lv_goto (tgt := 20) hx hb dX8_state_16 (by decide) ?_
      exact W.iret (v := 0) hx hb hr (fun t ht hW => ⟨0, rfl, by first | exact Or.inl ⟨rfl, by omega⟩ | (exfalso; omega), ht⟩) (fun q h => by cases h) dX8_state_20
    ·
      have h_4e : p0 = 1 := (g_eq rfl t_1).mpr h_4
      refine W_top (y := .ref (a 14)) (by rw [h_4e]; exact congrArg (fun n => Value.ref (a n)) (by decide : 13 + (1 : Int32).toNatClampNeg = 14)) ?_
      refine va_getN (D := D) (ci := 5) (v := .int 0) (C := RX5) (T := TX5) (N := 11) hx hb htb iX5 hown hK.1 hP 3 rfl rfl 8 (by decide) (va_Nw.use rfl (hK.2.1 (Cond.fieldLinkNest RX8 208 "SeaWatches$Ship" "stage" "I" "SeaWatches") (by decide +kernel))) (fun _ h9 => h9) rfl dX8_state_13 ?_
      refine lv_goto (tgt := 20) hx hb dX8_state_16 (by decide) ?_
      exact W.iret (v := 0) hx hb hr (fun t ht hW => ⟨0, rfl, by first | exact Or.inl ⟨rfl, by omega⟩ | (exfalso; omega), ht⟩) (fun q h => by cases h) dX8_state_20
    ·
      have h_4e : p0 = 2 := (g_eq rfl t_2).mpr h_4
      refine W_top (y := .ref (a 15)) (by rw [h_4e]; exact congrArg (fun n => Value.ref (a n)) (by decide : 13 + (2 : Int32).toNatClampNeg = 15)) ?_
      refine va_getN (D := D) (ci := 5) (v := .int 0) (C := RX5) (T := TX5) (N := 11) hx hb htb iX5 hown hK.1 hP 4 rfl rfl 8 (by decide) (va_Nw.use rfl (hK.2.1 (Cond.fieldLinkNest RX8 208 "SeaWatches$Ship" "stage" "I" "SeaWatches") (by decide +kernel))) (fun _ h9 => h9) rfl dX8_state_13 ?_
      refine lv_goto (tgt := 20) hx hb dX8_state_16 (by decide) ?_
      exact W.iret (v := 0) hx hb hr (fun t ht hW => ⟨0, rfl, by first | exact Or.inl ⟨rfl, by omega⟩ | (exfalso; omega), ht⟩) (fun q h => by cases h) dX8_state_20
    ·
      have h_4e : p0 = 3 := (g_eq rfl t_3).mpr h_4
      refine W_top (y := .ref (a 16)) (by rw [h_4e]; exact congrArg (fun n => Value.ref (a n)) (by decide : 13 + (3 : Int32).toNatClampNeg = 16)) ?_
      refine va_getN (D := D) (ci := 5) (v := .int 0) (C := RX5) (T := TX5) (N := 11) hx hb htb iX5 hown hK.1 hP 5 rfl rfl 8 (by decide) (va_Nw.use rfl (hK.2.1 (Cond.fieldLinkNest RX8 208 "SeaWatches$Ship" "stage" "I" "SeaWatches") (by decide +kernel))) (fun _ h9 => h9) rfl dX8_state_13 ?_
      refine lv_goto (tgt := 20) hx hb dX8_state_16 (by decide) ?_
      exact W.iret (v := 0) hx hb hr (fun t ht hW => ⟨0, rfl, by first | exact Or.inl ⟨rfl, by omega⟩ | (exfalso; omega), ht⟩) (fun q h => by cases h) dX8_state_20
    ·
      have h_4e : p0 = 4 := (g_eq rfl t_4).mpr h_4
      refine W_top (y := .ref (a 17)) (by rw [h_4e]; exact congrArg (fun n => Value.ref (a n)) (by decide : 13 + (4 : Int32).toNatClampNeg = 17)) ?_
      refine va_getN (D := D) (ci := 5) (v := .int 0) (C := RX5) (T := TX5) (N := 11) hx hb htb iX5 hown hK.1 hP 6 rfl rfl 8 (by decide) (va_Nw.use rfl (hK.2.1 (Cond.fieldLinkNest RX8 208 "SeaWatches$Ship" "stage" "I" "SeaWatches") (by decide +kernel))) (fun _ h9 => h9) rfl dX8_state_13 ?_
      refine lv_goto (tgt := 20) hx hb dX8_state_16 (by decide) ?_
      exact W.iret (v := 0) hx hb hr (fun t ht hW => ⟨0, rfl, by first | exact Or.inl ⟨rfl, by omega⟩ | (exfalso; omega), ht⟩) (fun q h => by cases h) dX8_state_20
  ·
    refine W_top (y := .int 0) (by rw [hr_2]) ?_
    refine lv_if_eq (tgt := 19) hx hb dX8_state_4 (by decide) (fun c_5 => ?_) (fun c_5 => absurd (by decide) c_5)
    refine lv_iconst (v := (-1)) hx hb dX8_state_19 (by decide) ?_
    exact W.iret (v := (-1)) hx hb hr (fun t ht hW => ⟨(-1), rfl, by first | exact Or.inr ⟨rfl, by omega⟩ | (exfalso; omega), ht⟩) (fun q h => by cases h) dX8_state_20
set_option maxHeartbeats 4000000 in
set_option maxRecDepth 100000 in
theorem c_X8_deal (l : Launch) (D : va_G) (E : Nat → Nat) (h0 : Nat) (a : Nat → Nat) (p0 : Int32) (p1 : Int32) (p2 : Int32)  : Met l yX8_deal (wl yX8_deal cX8_deal 5 (some .int)) (RM 0 0 0) (rd_P D E [.ref h0, .int p0, .int p1, .int p2] [(h0, .inr (8, xF a 0)), ((a 10), .inr (0, [.ref (a 28), .ref (a 29), .ref (a 30), .ref (a 31), .ref (a 32), .int 0, .int 0, .int 0, .int 0]))]) (rd_Q (fun r => (r = (-4) ∧ ((1 ≤ p0.toInt ∧ p0.toInt ≤ 400) ∧ (0 ≤ p1.toInt ∧ p1.toInt ≤ 400) ∧ (0 ≤ p2.toInt ∧ p2.toInt ≤ 400) ∧ ¬ (p1.toInt = 0 ∧ p2.toInt ≠ 0))) ∨ (r = (-1) ∧ ¬ ((1 ≤ p0.toInt ∧ p0.toInt ≤ 400) ∧ (0 ≤ p1.toInt ∧ p1.toInt ≤ 400) ∧ (0 ≤ p2.toInt ∧ p2.toInt ≤ 400) ∧ ¬ (p1.toInt = 0 ∧ p2.toInt ≠ 0))))) 0 0 (fun _ => False) := by
  refine Met.ofW (cc := cX8_deal) (maxL := 5) (ret := (some .int)) (by decide) rfl ?_
  intro p e s m args below meth c s₁ B hml hv
  obtain ⟨rfl, hP, hK⟩ := hv
  have hx := B.exec
  have hb := B.bytes
  have hr := B.returns
  have hts := atoms_spec (ws := wl yX8_deal cX8_deal 5 (some .int)) B.pre
  have htb : ∀ w ∈ tb, w.before _ s = true := fun w h => hts w (List.mem_cons_of_mem _ h)
  have hown : s.vm.findClass RX8 = some m.cls := findClass_of_methodNamed B.named
  have hlocks := B.notSynchronized
  have hP : va_P D vwCl [(h0, .inr (8, xF a 0)), ((a 10), .inr (0, [.ref (a 28), .ref (a 29), .ref (a 30), .ref (a 31), .ref (a 32), .int 0, .int 0, .int 0, .int 0]))] s.heap := hP
  have hl := lv_entry ([.ref h0, .int p0, .int p1, .int p2]) (n := 5) (Nat.le_of_ble_eq_true rfl)
  rw [lg_entry_eq]
  generalize (lg_sl ([.ref h0, .int p0, .int p1, .int p2]) ++ List.replicate (5 - (lg_sl ([.ref h0, .int p0, .int p1, .int p2])).length) Slot.unset).toArray = ls at hl ⊢
  have hl : lv_has ls 5 [(0, .ref h0), (1, .int p0), (2, .int p1), (3, .int p2)] := hl
  have lo_p0 := i_lo p0
  have hi_p0 := i_hi p0
  have lo_p1 := i_lo p1
  have hi_p1 := i_hi p1
  have lo_p2 := i_lo p2
  have hi_p2 := i_hi p2
  refine lv_iload_n hx hb dX8_deal_0 rfl (lv_at hl 1 rfl) ?_
  refine lv_iconst (v := 1) hx hb dX8_deal_1 (by decide) ?_
  refine lv_icmp_lt (tgt := 42) hx hb dX8_deal_2 (by decide) (fun c_1 => ?_) (fun c_1 => ?_)
  ·
    have ic_1 : p0.toInt < 1 := by first | exact (g_lt rfl t_1).mp c_1 | (have h := mt (g_le t_1 rfl).mpr c_1; omega)
    refine lv_iconst (v := (-1)) hx hb dX8_deal_42 (by decide) ?_
    exact W.iret (v := (-1)) hx hb hr (fun t ht hW => ⟨(-1), rfl, by first | exact Or.inr ⟨rfl, by omega⟩ | (exfalso; omega), ht⟩) (fun q h => by cases h) dX8_deal_43
  ·
    have ic_1 : 1 ≤ p0.toInt := by first | exact (g_le t_1 rfl).mp c_1 | (have h := mt (g_lt rfl t_1).mpr c_1; omega)
    refine lv_iload_n hx hb dX8_deal_5 rfl (lv_at hl 1 rfl) ?_
    refine lv_sipush (v := 400) hx hb dX8_deal_6 (by decide) ?_
    refine lv_icmp_gt (tgt := 42) hx hb dX8_deal_9 (by decide) (fun c_2 => ?_) (fun c_2 => ?_)
    ·
      have ic_2 : 400 < p0.toInt := by first | exact (g_lt t_400 rfl).mp c_2 | (have h := mt (g_le rfl t_400).mpr c_2; omega)
      refine lv_iconst (v := (-1)) hx hb dX8_deal_42 (by decide) ?_
      exact W.iret (v := (-1)) hx hb hr (fun t ht hW => ⟨(-1), rfl, by first | exact Or.inr ⟨rfl, by omega⟩ | (exfalso; omega), ht⟩) (fun q h => by cases h) dX8_deal_43
    ·
      have ic_2 : p0.toInt ≤ 400 := by first | exact (g_le rfl t_400).mp c_2 | (have h := mt (g_lt t_400 rfl).mpr c_2; omega)
      refine lv_iload_n hx hb dX8_deal_12 rfl (lv_at hl 2 rfl) ?_
      refine lv_if_lt (tgt := 42) hx hb dX8_deal_13 (by decide) (fun c_3 => ?_) (fun c_3 => ?_)
      ·
        have ic_3 : p1.toInt < 0 := by first | exact (g_lt rfl t_0).mp c_3 | (have h := mt (g_le t_0 rfl).mpr c_3; omega)
        refine lv_iconst (v := (-1)) hx hb dX8_deal_42 (by decide) ?_
        exact W.iret (v := (-1)) hx hb hr (fun t ht hW => ⟨(-1), rfl, by first | exact Or.inr ⟨rfl, by omega⟩ | (exfalso; omega), ht⟩) (fun q h => by cases h) dX8_deal_43
      ·
        have ic_3 : 0 ≤ p1.toInt := by first | exact (g_le t_0 rfl).mp c_3 | (have h := mt (g_lt rfl t_0).mpr c_3; omega)
        refine lv_iload_n hx hb dX8_deal_16 rfl (lv_at hl 2 rfl) ?_
        refine lv_sipush (v := 400) hx hb dX8_deal_17 (by decide) ?_
        refine lv_icmp_gt (tgt := 42) hx hb dX8_deal_20 (by decide) (fun c_4 => ?_) (fun c_4 => ?_)
        ·
          have ic_4 : 400 < p1.toInt := by first | exact (g_lt t_400 rfl).mp c_4 | (have h := mt (g_le rfl t_400).mpr c_4; omega)
          refine lv_iconst (v := (-1)) hx hb dX8_deal_42 (by decide) ?_
          exact W.iret (v := (-1)) hx hb hr (fun t ht hW => ⟨(-1), rfl, by first | exact Or.inr ⟨rfl, by omega⟩ | (exfalso; omega), ht⟩) (fun q h => by cases h) dX8_deal_43
        ·
          have ic_4 : p1.toInt ≤ 400 := by first | exact (g_le rfl t_400).mp c_4 | (have h := mt (g_lt t_400 rfl).mpr c_4; omega)
          refine lv_iload_n hx hb dX8_deal_23 rfl (lv_at hl 3 rfl) ?_
          refine lv_if_lt (tgt := 42) hx hb dX8_deal_24 (by decide) (fun c_5 => ?_) (fun c_5 => ?_)
          ·
            have ic_5 : p2.toInt < 0 := by first | exact (g_lt rfl t_0).mp c_5 | (have h := mt (g_le t_0 rfl).mpr c_5; omega)
            refine lv_iconst (v := (-1)) hx hb dX8_deal_42 (by decide) ?_
            exact W.iret (v := (-1)) hx hb hr (fun t ht hW => ⟨(-1), rfl, by first | exact Or.inr ⟨rfl, by omega⟩ | (exfalso; omega), ht⟩) (fun q h => by cases h) dX8_deal_43
          ·
            have ic_5 : 0 ≤ p2.toInt := by first | exact (g_le t_0 rfl).mp c_5 | (have h := mt (g_lt rfl t_0).mpr c_5; omega)
            refine lv_iload_n hx hb dX8_deal_27 rfl (lv_at hl 3 rfl) ?_
            refine lv_sipush (v := 400) hx hb dX8_deal_28 (by decide) ?_
            refine lv_icmp_gt (tgt := 42) hx hb dX8_deal_31 (by decide) (fun c_6 => ?_) (fun c_6 => ?_)
            ·
              have ic_6 : 400 < p2.toInt := by first | exact (g_lt t_400 rfl).mp c_6 | (have h := mt (g_le rfl t_400).mpr c_6; omega)
              refine lv_iconst (v := (-1)) hx hb dX8_deal_42 (by decide) ?_
              exact W.iret (v := (-1)) hx hb hr (fun t ht hW => ⟨(-1), rfl, by first | exact Or.inr ⟨rfl, by omega⟩ | (exfalso; omega), ht⟩) (fun q h => by cases h) dX8_deal_43
            ·
              have ic_6 : p2.toInt ≤ 400 := by first | exact (g_le rfl t_400).mp c_6 | (have h := mt (g_lt t_400 rfl).mpr c_6; omega)
              refine lv_iload_n hx hb dX8_deal_34 rfl (lv_at hl 2 rfl) ?_
              refine lv_if_ne (tgt := 44) hx hb dX8_deal_35 (by decide) (fun c_7 => ?_) (fun c_7 => ?_)
              ·
                have ic_7 : p1.toInt ≠ 0 := mt (g_eq rfl t_0).mpr c_7
                refine lv_iload_n hx hb dX8_deal_44 rfl (lv_at hl 2 rfl) ?_
                refine lv_if_ne (tgt := 52) hx hb dX8_deal_45 (by decide) (fun c_8 => ?_) (fun c_8 => absurd c_8 (by rw [g_eq rfl t_0]; omega))
                refine lv_iload_n hx hb dX8_deal_52 rfl (lv_at hl 3 rfl) ?_
                refine lv_if_ne (tgt := 60) hx hb dX8_deal_53 (by decide) (fun c_9 => ?_) (fun c_9 => ?_)
                ·
                  have ic_9 : p2.toInt ≠ 0 := mt (g_eq rfl t_0).mpr c_9
                  refine lv_iconst (v := 3) hx hb dX8_deal_60 (by decide) ?_
                  refine lv_istore (lv' := [(4, .int 3), (0, .ref h0), (1, .int p0), (2, .int p1), (3, .int p2)]) hx hb dX8_deal_61 hl (by decide) rfl (fun ls hl => ?_)
                  refine lv_aload_n hx hb dX8_deal_63 rfl (lv_at hl 1 rfl) ?_
                  refine va_get (D := D) (ci := 8) (v := .ref (a 10)) (C := RX8) (T := TX8) (N := 14) hx hb htb iX8 hown hK.1 hP 0 rfl rfl 10 (by decide) (htb _ k_282) (fun _ h9 => h9) rfl dX8_deal_64 ?_
                  refine va_getN (D := D) (ci := 0) (v := .int 0) (C := RX0) (T := TX0) (N := 9) hx hb htb iX0 hown hK.1 hP 1 rfl rfl 5 (by decide) (va_Nw.use rfl (hK.2.1 (Cond.fieldLinkNest RX8 275 "SeaWatches$Dealing" "listed" "I" "SeaWatches") (by decide +kernel))) (fun _ h9 => h9) rfl dX8_deal_67 ?_
                  refine lv_iconst (v := 3) hx hb dX8_deal_70 (by decide) ?_
                  refine lv_iload hx hb dX8_deal_71 (lv_at hl 0 rfl) ?_
                  refine lv_imul hx hb dX8_deal_73 ?_
                  refine W_top (y := .int 9) (by decide) ?_
                  refine lv_icmp_ge (tgt := 80) hx hb dX8_deal_74 (by decide) (fun c_10 => absurd c_10 (by decide)) (fun c_10 => ?_)
                  refine lv_bipush (v := (-4)) hx hb dX8_deal_77 (by decide) ?_
                  exact W.iret (v := (-4)) hx hb hr (fun t ht hW => ⟨(-4), rfl, by first | exact Or.inl ⟨rfl, by omega⟩ | (exfalso; omega), ht⟩) (fun q h => by cases h) dX8_deal_79
                ·
                  have ic_9 : p2.toInt = 0 := (g_eq rfl t_0).mp c_9
                  refine lv_iconst (v := 2) hx hb dX8_deal_56 (by decide) ?_
                  refine lv_goto (tgt := 61) hx hb dX8_deal_57 (by decide) ?_
                  refine lv_istore (lv' := [(4, .int 2), (0, .ref h0), (1, .int p0), (2, .int p1), (3, .int p2)]) hx hb dX8_deal_61 hl (by decide) rfl (fun ls hl => ?_)
                  refine lv_aload_n hx hb dX8_deal_63 rfl (lv_at hl 1 rfl) ?_
                  refine va_get (D := D) (ci := 8) (v := .ref (a 10)) (C := RX8) (T := TX8) (N := 14) hx hb htb iX8 hown hK.1 hP 0 rfl rfl 10 (by decide) (htb _ k_282) (fun _ h9 => h9) rfl dX8_deal_64 ?_
                  refine va_getN (D := D) (ci := 0) (v := .int 0) (C := RX0) (T := TX0) (N := 9) hx hb htb iX0 hown hK.1 hP 1 rfl rfl 5 (by decide) (va_Nw.use rfl (hK.2.1 (Cond.fieldLinkNest RX8 275 "SeaWatches$Dealing" "listed" "I" "SeaWatches") (by decide +kernel))) (fun _ h9 => h9) rfl dX8_deal_67 ?_
                  refine lv_iconst (v := 3) hx hb dX8_deal_70 (by decide) ?_
                  refine lv_iload hx hb dX8_deal_71 (lv_at hl 0 rfl) ?_
                  refine lv_imul hx hb dX8_deal_73 ?_
                  refine W_top (y := .int 6) (by decide) ?_
                  refine lv_icmp_ge (tgt := 80) hx hb dX8_deal_74 (by decide) (fun c_11 => absurd c_11 (by decide)) (fun c_11 => ?_)
                  refine lv_bipush (v := (-4)) hx hb dX8_deal_77 (by decide) ?_
                  exact W.iret (v := (-4)) hx hb hr (fun t ht hW => ⟨(-4), rfl, by first | exact Or.inl ⟨rfl, by omega⟩ | (exfalso; omega), ht⟩) (fun q h => by cases h) dX8_deal_79
              ·
                have ic_7 : p1.toInt = 0 := (g_eq rfl t_0).mp c_7
                refine lv_iload_n hx hb dX8_deal_38 rfl (lv_at hl 3 rfl) ?_
                refine lv_if_eq (tgt := 44) hx hb dX8_deal_39 (by decide) (fun c_12 => ?_) (fun c_12 => ?_)
                ·
                  have ic_12 : p2.toInt = 0 := (g_eq rfl t_0).mp c_12
                  refine lv_iload_n hx hb dX8_deal_44 rfl (lv_at hl 2 rfl) ?_
                  refine lv_if_ne (tgt := 52) hx hb dX8_deal_45 (by decide) (fun c_13 => absurd (by rw [g_eq rfl t_0]; omega) c_13) (fun c_13 => ?_)
                  refine lv_iconst (v := 1) hx hb dX8_deal_48 (by decide) ?_
                  refine lv_goto (tgt := 61) hx hb dX8_deal_49 (by decide) ?_
                  refine lv_istore (lv' := [(4, .int 1), (0, .ref h0), (1, .int p0), (2, .int p1), (3, .int p2)]) hx hb dX8_deal_61 hl (by decide) rfl (fun ls hl => ?_)
                  refine lv_aload_n hx hb dX8_deal_63 rfl (lv_at hl 1 rfl) ?_
                  refine va_get (D := D) (ci := 8) (v := .ref (a 10)) (C := RX8) (T := TX8) (N := 14) hx hb htb iX8 hown hK.1 hP 0 rfl rfl 10 (by decide) (htb _ k_282) (fun _ h9 => h9) rfl dX8_deal_64 ?_
                  refine va_getN (D := D) (ci := 0) (v := .int 0) (C := RX0) (T := TX0) (N := 9) hx hb htb iX0 hown hK.1 hP 1 rfl rfl 5 (by decide) (va_Nw.use rfl (hK.2.1 (Cond.fieldLinkNest RX8 275 "SeaWatches$Dealing" "listed" "I" "SeaWatches") (by decide +kernel))) (fun _ h9 => h9) rfl dX8_deal_67 ?_
                  refine lv_iconst (v := 3) hx hb dX8_deal_70 (by decide) ?_
                  refine lv_iload hx hb dX8_deal_71 (lv_at hl 0 rfl) ?_
                  refine lv_imul hx hb dX8_deal_73 ?_
                  refine W_top (y := .int 3) (by decide) ?_
                  refine lv_icmp_ge (tgt := 80) hx hb dX8_deal_74 (by decide) (fun c_14 => absurd c_14 (by decide)) (fun c_14 => ?_)
                  refine lv_bipush (v := (-4)) hx hb dX8_deal_77 (by decide) ?_
                  exact W.iret (v := (-4)) hx hb hr (fun t ht hW => ⟨(-4), rfl, by first | exact Or.inl ⟨rfl, by omega⟩ | (exfalso; omega), ht⟩) (fun q h => by cases h) dX8_deal_79
                ·
                  have ic_12 : p2.toInt ≠ 0 := mt (g_eq rfl t_0).mpr c_12
                  refine lv_iconst (v := (-1)) hx hb dX8_deal_42 (by decide) ?_
                  exact W.iret (v := (-1)) hx hb hr (fun t ht hW => ⟨(-1), rfl, by first | exact Or.inr ⟨rfl, by omega⟩ | (exfalso; omega), ht⟩) (fun q h => by cases h) dX8_deal_43
set_option maxHeartbeats 4000000 in
set_option maxRecDepth 100000 in
theorem c_X8_dealt (l : Launch) (D : va_G) (E : Nat → Nat) (h0 : Nat) (a : Nat → Nat) (p0 : Int32)  : Met l yX8_dealt (wl yX8_dealt cX8_dealt 2 (some .int)) (RM 0 0 0) (rd_P D E [.ref h0, .int p0] [(h0, .inr (8, xF a 0)), ((a 10), .inr (0, [.ref (a 28), .ref (a 29), .ref (a 30), .ref (a 31), .ref (a 32), .int 0, .int 0, .int 0, .int 0]))]) (rd_Q (fun r => (r = (-2000000000) ∧ True))) 0 0 (fun _ => False) := by
  refine Met.ofW (cc := cX8_dealt) (maxL := 2) (ret := (some .int)) (by decide) rfl ?_
  intro p e s m args below meth c s₁ B hml hv
  obtain ⟨rfl, hP, hK⟩ := hv
  have hx := B.exec
  have hb := B.bytes
  have hr := B.returns
  have hts := atoms_spec (ws := wl yX8_dealt cX8_dealt 2 (some .int)) B.pre
  have htb : ∀ w ∈ tb, w.before _ s = true := fun w h => hts w (List.mem_cons_of_mem _ h)
  have hown : s.vm.findClass RX8 = some m.cls := findClass_of_methodNamed B.named
  have hlocks := B.notSynchronized
  have hP : va_P D vwCl [(h0, .inr (8, xF a 0)), ((a 10), .inr (0, [.ref (a 28), .ref (a 29), .ref (a 30), .ref (a 31), .ref (a 32), .int 0, .int 0, .int 0, .int 0]))] s.heap := hP
  have hl := lv_entry ([.ref h0, .int p0]) (n := 2) (Nat.le_of_ble_eq_true rfl)
  rw [lg_entry_eq]
  generalize (lg_sl ([.ref h0, .int p0]) ++ List.replicate (2 - (lg_sl ([.ref h0, .int p0])).length) Slot.unset).toArray = ls at hl ⊢
  have hl : lv_has ls 2 [(0, .ref h0), (1, .int p0)] := hl
  have lo_p0 := i_lo p0
  have hi_p0 := i_hi p0
  refine lv_iload_n hx hb dX8_dealt_0 rfl (lv_at hl 1 rfl) ?_
  refine lv_if_lt (tgt := 15) hx hb dX8_dealt_1 (by decide) (fun c_1 => ?_) (fun c_1 => ?_)
  ·
    have ic_1 : p0.toInt < 0 := by first | exact (g_lt rfl t_0).mp c_1 | (have h := mt (g_le t_0 rfl).mpr c_1; omega)
    refine lv_ldc hx hb hown (htb _ k_386) dX8_dealt_15 ?_
    refine lv_goto (tgt := 29) hx hb dX8_dealt_17 (by decide) ?_
    exact W.iret (v := (-2000000000)) hx hb hr (fun t ht hW => ⟨(-2000000000), rfl, ⟨rfl, trivial⟩, ht⟩) (fun q h => by cases h) dX8_dealt_29
  ·
    have ic_1 : 0 ≤ p0.toInt := by first | exact (g_le t_0 rfl).mp c_1 | (have h := mt (g_lt rfl t_0).mpr c_1; omega)
    refine lv_iload_n hx hb dX8_dealt_4 rfl (lv_at hl 1 rfl) ?_
    refine lv_aload_n hx hb dX8_dealt_5 rfl (lv_at hl 0 rfl) ?_
    refine va_get (D := D) (ci := 8) (v := .ref (a 10)) (C := RX8) (T := TX8) (N := 14) hx hb htb iX8 hown hK.1 hP 0 rfl rfl 10 (by decide) (htb _ k_282) (fun _ h9 => h9) rfl dX8_dealt_6 ?_
    refine va_getN (D := D) (ci := 0) (v := .int 0) (C := RX0) (T := TX0) (N := 9) hx hb htb iX0 hown hK.1 hP 1 rfl rfl 6 (by decide) (va_Nw.use rfl (hK.2.1 (Cond.fieldLinkNest RX8 282 "SeaWatches$Dealing" "shared" "I" "SeaWatches") (by decide +kernel))) (fun _ h9 => h9) rfl dX8_dealt_9 ?_
    refine lv_icmp_lt (tgt := 20) hx hb dX8_dealt_12 (by decide) (fun c_2 => absurd c_2 (by rw [g_lt rfl t_0]; omega)) (fun c_2 => ?_)
    refine lv_ldc hx hb hown (htb _ k_386) dX8_dealt_15 ?_
    refine lv_goto (tgt := 29) hx hb dX8_dealt_17 (by decide) ?_
    exact W.iret (v := (-2000000000)) hx hb hr (fun t ht hW => ⟨(-2000000000), rfl, ⟨rfl, trivial⟩, ht⟩) (fun q h => by cases h) dX8_dealt_29
set_option maxHeartbeats 4000000 in
set_option maxRecDepth 100000 in
theorem c_X8_count (l : Launch) (D : va_G) (E : Nat → Nat) (h0 : Nat) (a : Nat → Nat) (b : Nat → Nat → Nat) (p0 : Int32)  : Met l yX8_count (wl yX8_count cX8_count 2 (some .int)) (RM 1 0 0) (rd_P D E [.ref h0, .int p0] [(h0, .inr (8, xF a 0)), ((a 1), .inl (E 0, 16, .inl (fun _ => -5))), ((a 4), .inl (E 4, 5, .inr (.inr (.inr (.inr (fun j => some (a (13 + j)))))))), ((a 13), .inr (5, sF (b 0))), ((a 14), .inr (5, sF (b 1))), ((a 15), .inr (5, sF (b 2))), ((a 16), .inr (5, sF (b 3))), ((a 17), .inr (5, sF (b 4))), ((a 6), .inr (2, [.ref (a 18), .ref (a 19), .ref (a 20), .ref (a 21), .ref (a 22), .int 0])), ((a 9), .inr (6, [.ref (a 23), .int 0, .ref (a 24), .ref (E 5), .int 0, .int 0, .int 0, .int 0])), ((a 10), .inr (0, [.ref (a 28), .ref (a 29), .ref (a 30), .ref (a 31), .ref (a 32), .int 0, .int 0, .int 0, .int 0]))]) (rd_Q (fun r => (r = 0 ∧ (0 ≤ p0.toInt ∧ p0.toInt ≤ 6)) ∨ (r = (-1) ∧ ¬ (0 ≤ p0.toInt ∧ p0.toInt ≤ 6)))) 0 0 (fun _ => False) := by
  refine Met.ofW (cc := cX8_count) (maxL := 2) (ret := (some .int)) (by decide) rfl ?_
  intro p e s m args below meth c s₁ B hml hv
  obtain ⟨rfl, hP, hK⟩ := hv
  have hx := B.exec
  have hb := B.bytes
  have hr := B.returns
  have hts := atoms_spec (ws := wl yX8_count cX8_count 2 (some .int)) B.pre
  have htb : ∀ w ∈ tb, w.before _ s = true := fun w h => hts w (List.mem_cons_of_mem _ h)
  have hown : s.vm.findClass RX8 = some m.cls := findClass_of_methodNamed B.named
  have hlocks := B.notSynchronized
  have hP : va_P D vwCl [(h0, .inr (8, xF a 0)), ((a 1), .inl (E 0, 16, .inl (fun _ => -5))), ((a 4), .inl (E 4, 5, .inr (.inr (.inr (.inr (fun j => some (a (13 + j)))))))), ((a 13), .inr (5, sF (b 0))), ((a 14), .inr (5, sF (b 1))), ((a 15), .inr (5, sF (b 2))), ((a 16), .inr (5, sF (b 3))), ((a 17), .inr (5, sF (b 4))), ((a 6), .inr (2, [.ref (a 18), .ref (a 19), .ref (a 20), .ref (a 21), .ref (a 22), .int 0])), ((a 9), .inr (6, [.ref (a 23), .int 0, .ref (a 24), .ref (E 5), .int 0, .int 0, .int 0, .int 0])), ((a 10), .inr (0, [.ref (a 28), .ref (a 29), .ref (a 30), .ref (a 31), .ref (a 32), .int 0, .int 0, .int 0, .int 0]))] s.heap := hP
  have hl := lv_entry ([.ref h0, .int p0]) (n := 2) (Nat.le_of_ble_eq_true rfl)
  rw [lg_entry_eq]
  generalize (lg_sl ([.ref h0, .int p0]) ++ List.replicate (2 - (lg_sl ([.ref h0, .int p0])).length) Slot.unset).toArray = ls at hl ⊢
  have hl : lv_has ls 2 [(0, .ref h0), (1, .int p0)] := hl
  have lo_p0 := i_lo p0
  have hi_p0 := i_hi p0
  refine lv_iload_n hx hb dX8_count_0 rfl (lv_at hl 1 rfl) ?_
  by_cases h_1 : p0.toInt < 0 ∨ 6 < p0.toInt
  ·
    refine lv_tableOut (tgt := 96) hx hb dX8_count_1 h_1 (by decide) ?_
    refine lv_iconst (v := (-1)) hx hb dX8_count_96 (by decide) ?_
    exact W.iret (v := (-1)) hx hb hr (fun t ht hW => ⟨(-1), rfl, by first | exact Or.inr ⟨rfl, by omega⟩ | (exfalso; omega), ht⟩) (fun q h => by cases h) dX8_count_97
  ·
    have h_2 : p0.toInt = 0 ∨ p0.toInt = 1 ∨ p0.toInt = 2 ∨ p0.toInt = 3 ∨ p0.toInt = 4 ∨ p0.toInt = 5 ∨ p0.toInt = 6 := by omega
    rcases h_2 with h_2 | h_2 | h_2 | h_2 | h_2 | h_2 | h_2
    ·
      refine lv_tableIn (off := 43) (tgt := 44) hx hb dX8_count_1 (by omega) (by omega) (by rw [h_2]; decide) (by decide) ?_
      refine lv_aload_n hx hb dX8_count_44 rfl (lv_at hl 0 rfl) ?_
      refine lv_iconst (v := 0) hx hb dX8_count_45 (by decide) ?_
      refine callRV (rest := []) (As := [.int 0]) hx hb hml hown htb hK (c_X8_placesWith l D E h0 a 0 (by decide)) ok_X8_placesWith k_945 k_947 ks_37 k_1 k_948 ⟨(Nat.le_of_ble_eq_true rfl), (Nat.le_of_ble_eq_true rfl)⟩ ⟨(Nat.le_of_ble_eq_true rfl), (Nat.le_of_ble_eq_true rfl)⟩ hl.1 (Nat.le_of_ble_eq_true rfl) rfl rfl dX8_count_46 (hP.sub (ws' := [(h0, .inr (8, xF a 0)), ((a 1), .inl (E 0, 16, .inl (fun _ => -5)))]) [0, 1] rfl) rfl rfl 0 rfl (fun r_4 hw_3 => ?_)
      obtain ⟨hr_4, hw_3⟩ := hw_3
      refine W_top (y := .int 0) (by rw [hr_4]) ?_
      refine lv_aload_n hx hb dX8_count_49 rfl (lv_at hl 0 rfl) ?_
      refine lv_iconst (v := 1) hx hb dX8_count_50 (by decide) ?_
      refine callRV (rest := [.int 0]) (As := [.int 1]) hx hb hml hown htb hK (c_X8_placesWith l D E h0 a 1 (by decide)) ok_X8_placesWith k_945 k_947 ks_37 k_1 k_948 ⟨(Nat.le_of_ble_eq_true rfl), (Nat.le_of_ble_eq_true rfl)⟩ ⟨(Nat.le_of_ble_eq_true rfl), (Nat.le_of_ble_eq_true rfl)⟩ hl.1 (Nat.le_of_ble_eq_true rfl) rfl rfl dX8_count_51 (hP.sub (ws' := [(h0, .inr (8, xF a 0)), ((a 1), .inl (E 0, 16, .inl (fun _ => -5)))]) [0, 1] rfl) rfl rfl 0 rfl (fun r_6 hw_5 => ?_)
      obtain ⟨hr_6, hw_5⟩ := hw_5
      refine W_top (y := .int 0) (by rw [hr_6]) ?_
      refine lv_iadd hx hb dX8_count_54 ?_
      refine W_top (y := .int 0) (by decide) ?_
      exact W.iret (v := 0) hx hb hr (fun t ht hW => ⟨0, rfl, by first | exact Or.inl ⟨rfl, by omega⟩ | (exfalso; omega), ht⟩) (fun q h => by cases h) dX8_count_55
    ·
      refine lv_tableIn (off := 55) (tgt := 56) hx hb dX8_count_1 (by omega) (by omega) (by rw [h_2]; decide) (by decide) ?_
      refine lv_aload_n hx hb dX8_count_56 rfl (lv_at hl 0 rfl) ?_
      refine va_get (D := D) (ci := 8) (v := .int 0) (C := RX8) (T := TX8) (N := 14) hx hb htb iX8 hown hK.1 hP 0 rfl rfl 13 (by decide) (htb _ k_285) (fun _ h9 => h9) rfl dX8_count_57 ?_
      exact W.iret (v := 0) hx hb hr (fun t ht hW => ⟨0, rfl, by first | exact Or.inl ⟨rfl, by omega⟩ | (exfalso; omega), ht⟩) (fun q h => by cases h) dX8_count_60
    ·
      refine lv_tableIn (off := 60) (tgt := 61) hx hb dX8_count_1 (by omega) (by omega) (by rw [h_2]; decide) (by decide) ?_
      refine lv_aload_n hx hb dX8_count_61 rfl (lv_at hl 0 rfl) ?_
      refine va_get (D := D) (ci := 8) (v := .ref (a 6)) (C := RX8) (T := TX8) (N := 14) hx hb htb iX8 hown hK.1 hP 0 rfl rfl 6 (by decide) (htb _ k_278) (fun _ h9 => h9) rfl dX8_count_62 ?_
      refine va_getN (D := D) (ci := 2) (v := .int 0) (C := RX2) (T := TX2) (N := 6) hx hb htb iX2 hown hK.1 hP 8 rfl rfl 5 (by decide) (va_Nw.use rfl (hK.2.1 (Cond.fieldLinkNest RX8 142 "SeaWatches$Offs" "size" "I" "SeaWatches") (by decide +kernel))) (fun _ h9 => h9) rfl dX8_count_65 ?_
      exact W.iret (v := 0) hx hb hr (fun t ht hW => ⟨0, rfl, by first | exact Or.inl ⟨rfl, by omega⟩ | (exfalso; omega), ht⟩) (fun q h => by cases h) dX8_count_68
    ·
      refine lv_tableIn (off := 68) (tgt := 69) hx hb dX8_count_1 (by omega) (by omega) (by rw [h_2]; decide) (by decide) ?_
      refine lv_aload_n hx hb dX8_count_69 rfl (lv_at hl 0 rfl) ?_
      refine callRV (rest := []) (As := []) hx hb hml hown htb hK (c_X8_shipsAtSea l D E h0 a b ) ok_X8_shipsAtSea k_949 k_951 ks_38 k_1 k_952 ⟨(Nat.le_of_ble_eq_true rfl), (Nat.le_of_ble_eq_true rfl)⟩ ⟨(Nat.le_of_ble_eq_true rfl), (Nat.le_of_ble_eq_true rfl)⟩ hl.1 (Nat.le_of_ble_eq_true rfl) rfl rfl dX8_count_70 (hP.sub (ws' := [(h0, .inr (8, xF a 0)), ((a 4), .inl (E 4, 5, .inr (.inr (.inr (.inr (fun j => some (a (13 + j)))))))), ((a 13), .inr (5, sF (b 0))), ((a 14), .inr (5, sF (b 1))), ((a 15), .inr (5, sF (b 2))), ((a 16), .inr (5, sF (b 3))), ((a 17), .inr (5, sF (b 4)))]) [0, 2, 3, 4, 5, 6, 7] rfl) rfl rfl 0 rfl (fun r_8 hw_7 => ?_)
      obtain ⟨hr_8, hw_7⟩ := hw_7
      refine W_top (y := .int 0) (by rw [hr_8]) ?_
      exact W.iret (v := 0) hx hb hr (fun t ht hW => ⟨0, rfl, by first | exact Or.inl ⟨rfl, by omega⟩ | (exfalso; omega), ht⟩) (fun q h => by cases h) dX8_count_73
    ·
      refine lv_tableIn (off := 73) (tgt := 74) hx hb dX8_count_1 (by omega) (by omega) (by rw [h_2]; decide) (by decide) ?_
      refine lv_aload_n hx hb dX8_count_74 rfl (lv_at hl 0 rfl) ?_
      refine va_get (D := D) (ci := 8) (v := .ref (a 9)) (C := RX8) (T := TX8) (N := 14) hx hb htb iX8 hown hK.1 hP 0 rfl rfl 9 (by decide) (htb _ k_281) (fun _ h9 => h9) rfl dX8_count_75 ?_
      refine va_getN (D := D) (ci := 6) (v := .int 0) (C := RX6) (T := TX6) (N := 8) hx hb htb iX6 hown hK.1 hP 9 rfl rfl 1 (by decide) (va_Nw.use rfl (hK.2.1 (Cond.fieldLinkNest RX8 179 "SeaWatches$Tape" "size" "I" "SeaWatches") (by decide +kernel))) (fun _ h9 => h9) rfl dX8_count_78 ?_
      exact W.iret (v := 0) hx hb hr (fun t ht hW => ⟨0, rfl, by first | exact Or.inl ⟨rfl, by omega⟩ | (exfalso; omega), ht⟩) (fun q h => by cases h) dX8_count_81
    ·
      refine lv_tableIn (off := 81) (tgt := 82) hx hb dX8_count_1 (by omega) (by omega) (by rw [h_2]; decide) (by decide) ?_
      refine lv_aload_n hx hb dX8_count_82 rfl (lv_at hl 0 rfl) ?_
      refine lv_iconst (v := 2) hx hb dX8_count_83 (by decide) ?_
      refine callRV (rest := []) (As := [.int 2]) hx hb hml hown htb hK (c_X8_placesWith l D E h0 a 2 (by decide)) ok_X8_placesWith k_945 k_947 ks_37 k_1 k_948 ⟨(Nat.le_of_ble_eq_true rfl), (Nat.le_of_ble_eq_true rfl)⟩ ⟨(Nat.le_of_ble_eq_true rfl), (Nat.le_of_ble_eq_true rfl)⟩ hl.1 (Nat.le_of_ble_eq_true rfl) rfl rfl dX8_count_84 (hP.sub (ws' := [(h0, .inr (8, xF a 0)), ((a 1), .inl (E 0, 16, .inl (fun _ => -5)))]) [0, 1] rfl) rfl rfl 0 rfl (fun r_10 hw_9 => ?_)
      obtain ⟨hr_10, hw_9⟩ := hw_9
      refine W_top (y := .int 0) (by rw [hr_10]) ?_
      exact W.iret (v := 0) hx hb hr (fun t ht hW => ⟨0, rfl, by first | exact Or.inl ⟨rfl, by omega⟩ | (exfalso; omega), ht⟩) (fun q h => by cases h) dX8_count_87
    ·
      refine lv_tableIn (off := 87) (tgt := 88) hx hb dX8_count_1 (by omega) (by omega) (by rw [h_2]; decide) (by decide) ?_
      refine lv_aload_n hx hb dX8_count_88 rfl (lv_at hl 0 rfl) ?_
      refine va_get (D := D) (ci := 8) (v := .ref (a 10)) (C := RX8) (T := TX8) (N := 14) hx hb htb iX8 hown hK.1 hP 0 rfl rfl 10 (by decide) (htb _ k_282) (fun _ h9 => h9) rfl dX8_count_89 ?_
      refine va_getN (D := D) (ci := 0) (v := .int 0) (C := RX0) (T := TX0) (N := 9) hx hb htb iX0 hown hK.1 hP 10 rfl rfl 5 (by decide) (va_Nw.use rfl (hK.2.1 (Cond.fieldLinkNest RX8 275 "SeaWatches$Dealing" "listed" "I" "SeaWatches") (by decide +kernel))) (fun _ h9 => h9) rfl dX8_count_92 ?_
      exact W.iret (v := 0) hx hb hr (fun t ht hW => ⟨0, rfl, by first | exact Or.inl ⟨rfl, by omega⟩ | (exfalso; omega), ht⟩) (fun q h => by cases h) dX8_count_95
end
section
set_option maxHeartbeats 4000000 in
set_option maxRecDepth 100000 in
theorem c_X8_days (l : Launch) (D : va_G) (E : Nat → Nat) (h0 : Nat) (a : Nat → Nat) (p0 : Int32) (sz : Nat)  : Met l yX8_days (wl yX8_days cX8_days 2 (some .int)) (RM 0 0 0) (mu_P D E [.ref h0, .int p0] [(h0, .inr (8, xF a 0))] sz) (va_Qi (fun (r : Int32) (u : Unit) => (r = p0 ∧ (1 ≤ p0.toInt ∧ p0.toInt ≤ 100)) ∨ (r = (-1) ∧ ¬ (1 ≤ p0.toInt ∧ p0.toInt ≤ 100))) (mu_B D (va_A [(h0, .inr (8, xF a 0))] sz) (fun (u : Unit) => ([] : va_W))) (va_A [(h0, .inr (8, xF a 0))] sz)) 0 0 (va_A [(h0, .inr (8, xF a 0))] sz) := by
  refine Met.ofW (cc := cX8_days) (maxL := 2) (ret := (some .int)) (by decide) rfl ?_
  intro p e s m args below meth c s₁ B hml hv
  obtain ⟨rfl, hsz, hP, hK, hD0⟩ := hv
  have hx := B.exec
  have hb := B.bytes
  have hr := B.returns
  have hts := atoms_spec (ws := wl yX8_days cX8_days 2 (some .int)) B.pre
  have htb : ∀ w ∈ tb, w.before _ s = true := fun w h => hts w (List.mem_cons_of_mem _ h)
  have hown : s.vm.findClass RX8 = some m.cls := findClass_of_methodNamed B.named
  have hlocks := B.notSynchronized
  subst hsz
  have hD := hD0.self (sz := s.heap.size)
  generalize hAe : va_A [(h0, .inr (8, xF a 0))] s.heap.size = A at hD ⊢
  have hA : ∀ q : Nat, s.heap.size ≤ q → A q := fun q h => by rw [← hAe]; exact Or.inr h
  have hS : va_S A s.heap s.heap [] := va_S.rf
  have hP : va_P D vwCl [(h0, .inr (8, xF a 0))] s.heap := hP
  have hl := lv_entry ([.ref h0, .int p0]) (n := 2) (Nat.le_of_ble_eq_true rfl)
  rw [lg_entry_eq]
  generalize (lg_sl ([.ref h0, .int p0]) ++ List.replicate (2 - (lg_sl ([.ref h0, .int p0])).length) Slot.unset).toArray = ls at hl ⊢
  have hl : lv_has ls 2 [(0, .ref h0), (1, .int p0)] := hl
  have lo_p0 := i_lo p0
  have hi_p0 := i_hi p0
  refine lv_iload_n hx hb dX8_days_0 rfl (lv_at hl 1 rfl) ?_
  refine lv_iconst (v := 1) hx hb dX8_days_1 (by decide) ?_
  refine lv_icmp_lt (tgt := 23) hx hb dX8_days_2 (by decide) (fun c_1 => ?_) (fun c_1 => ?_)
  ·
    have ic_1 : p0.toInt < 1 := by first | exact (g_lt rfl t_1).mp c_1 | (have h := mt (g_le t_1 rfl).mpr c_1; omega)
    refine lv_iconst (v := (-1)) hx hb dX8_days_23 (by decide) ?_
    have hP9 := hP.sub (ws' := ([] : va_W)) [] rfl
    have hD9 := hD.sub (ws' := ([] : va_W)) [] (by decide) rfl
    exact W.iret (v := (-1)) hx hb hr (fun t ht hW => ⟨⟨(-1), (), rfl, by first | exact Or.inl ⟨(g_eq t_m1 rfl).mpr (by omega), by omega⟩ | exact Or.inr ⟨rfl, by omega⟩ | (exfalso; omega), by rw [ht]; exact hP9, hD9⟩, hS.F ht⟩) hS.2.2 dX8_days_24
  ·
    have ic_1 : 1 ≤ p0.toInt := by first | exact (g_le t_1 rfl).mp c_1 | (have h := mt (g_lt rfl t_1).mpr c_1; omega)
    refine lv_iload_n hx hb dX8_days_5 rfl (lv_at hl 1 rfl) ?_
    refine lv_bipush (v := 100) hx hb dX8_days_6 (by decide) ?_
    refine lv_icmp_gt (tgt := 23) hx hb dX8_days_8 (by decide) (fun c_2 => ?_) (fun c_2 => ?_)
    ·
      have ic_2 : 100 < p0.toInt := by first | exact (g_lt t_100 rfl).mp c_2 | (have h := mt (g_le rfl t_100).mpr c_2; omega)
      refine lv_iconst (v := (-1)) hx hb dX8_days_23 (by decide) ?_
      have hP9 := hP.sub (ws' := ([] : va_W)) [] rfl
      have hD9 := hD.sub (ws' := ([] : va_W)) [] (by decide) rfl
      exact W.iret (v := (-1)) hx hb hr (fun t ht hW => ⟨⟨(-1), (), rfl, by first | exact Or.inl ⟨(g_eq t_m1 rfl).mpr (by omega), by omega⟩ | exact Or.inr ⟨rfl, by omega⟩ | (exfalso; omega), by rw [ht]; exact hP9, hD9⟩, hS.F ht⟩) hS.2.2 dX8_days_24
    ·
      have ic_2 : p0.toInt ≤ 100 := by first | exact (g_le rfl t_100).mp c_2 | (have h := mt (g_lt t_100 rfl).mpr c_2; omega)
      refine lv_aload_n hx hb dX8_days_11 rfl (lv_at hl 0 rfl) ?_
      refine va_get (D := D) (ci := 8) (v := .int 0) (C := RX8) (T := TX8) (N := 14) hx hb htb iX8 hown hK.1 hP 0 rfl rfl 13 (by decide) (htb _ k_285) (fun _ h9 => h9) rfl dX8_days_12 ?_
      refine lv_iload_n hx hb dX8_days_15 rfl (lv_at hl 1 rfl) ?_
      refine lv_iadd hx hb dX8_days_16 ?_
      refine W_top (y := .int p0) (congrArg Value.int (Int32.zero_add _)) ?_
      refine lv_sipush (v := 400) hx hb dX8_days_17 (by decide) ?_
      refine lv_icmp_lt (tgt := 25) hx hb dX8_days_20 (by decide) (fun c_3 => ?_) (fun c_3 => absurd (by rw [g_lt rfl t_400]; omega) c_3)
      refine lv_aload_n hx hb dX8_days_25 rfl (lv_at hl 0 rfl) ?_
      refine lv_dup hx hb dX8_days_26 rfl ?_
      refine va_get (D := D) (ci := 8) (v := .int 0) (C := RX8) (T := TX8) (N := 14) hx hb htb iX8 hown hK.1 hP 0 rfl rfl 13 (by decide) (htb _ k_285) (fun _ h9 => h9) rfl dX8_days_27 ?_
      refine lv_iload_n hx hb dX8_days_30 rfl (lv_at hl 1 rfl) ?_
      refine lv_iadd hx hb dX8_days_31 ?_
      refine W_top (y := .int p0) (congrArg Value.int (Int32.zero_add _)) ?_
      refine va_put (D := D) (ci := 8) (v := .int p0) (ty := .int) (C := RX8) (T := TX8) (N := 14) hx hb htb iX8 tyX8 tyX8_ok nmX8 hown hK.1 hP hD hS 0 rfl rfl 13 (by decide) (htb _ k_285) (fun _ h9 => h9) rfl (by decide +kernel) rfl rfl (Nat.le_of_ble_eq_true rfl) dX8_days_32 (fun H locs hP hD hS => ?_)
      have hP : va_P D vwCl [(h0, .inr (8, xF a p0))] H := hP
      have hD : va_D A [(h0, .inr (8, xF a p0))] := hD
      refine lv_aload_n hx hb dX8_days_35 rfl (lv_at hl 0 rfl) ?_
      refine va_get (D := D) (ci := 8) (v := .int p0) (C := RX8) (T := TX8) (N := 14) hx hb htb iX8 hown hK.1 hP 0 rfl rfl 13 (by decide) (htb _ k_285) (fun _ h9 => h9) rfl dX8_days_36 ?_
      have hP9 := hP.sub (ws' := ([] : va_W)) [] rfl
      have hD9 := hD.sub (ws' := ([] : va_W)) [] (by decide) rfl
      exact W.iret (v := p0) hx hb hr (fun t ht hW => ⟨⟨p0, (), rfl, by first | exact Or.inl ⟨rfl, by omega⟩ | exact Or.inr ⟨(g_eq rfl t_m1).mpr (by omega), by omega⟩ | (exfalso; omega), by rw [ht]; exact hP9, hD9⟩, hS.F ht⟩) hS.2.2 dX8_days_39
set_option maxHeartbeats 4000000 in
set_option maxRecDepth 100000 in
theorem c_X8_warmth (l : Launch) (D : va_G) (E : Nat → Nat) (h0 : Nat) (a : Nat → Nat) (fw : Nat → Int32) (p0 : Int32) (p1 : Int32) (sz : Nat)  : Met l yX8_warmth (wl yX8_warmth cX8_warmth 3 (some .int)) (RM 1 0 0) (mu_P D E [.ref h0, .int p0, .int p1] [(h0, .inr (8, xF a 0)), ((a 0), .inl (E 0, 400, .inl fw))] sz) (va_Qi (fun (r : Int32) (u : Unit) => (r = 1 ∧ ((0 ≤ p0.toInt ∧ p0.toInt ≤ 399) ∧ (p1.toInt = -100 ∨ (-50 ≤ p1.toInt ∧ p1.toInt ≤ 50)))) ∨ (r = (-1) ∧ ¬ ((0 ≤ p0.toInt ∧ p0.toInt ≤ 399) ∧ (p1.toInt = -100 ∨ (-50 ≤ p1.toInt ∧ p1.toInt ≤ 50))))) (mu_B D (va_A [(h0, .inr (8, xF a 0)), ((a 0), .inl (E 0, 400, .inl fw))] sz) (fun (u : Unit) => ([] : va_W))) (va_A [(h0, .inr (8, xF a 0)), ((a 0), .inl (E 0, 400, .inl fw))] sz)) 0 0 (va_A [(h0, .inr (8, xF a 0)), ((a 0), .inl (E 0, 400, .inl fw))] sz) := by
  refine Met.ofW (cc := cX8_warmth) (maxL := 3) (ret := (some .int)) (by decide) rfl ?_
  intro p e s m args below meth c s₁ B hml hv
  obtain ⟨rfl, hsz, hP, hK, hD0⟩ := hv
  have hx := B.exec
  have hb := B.bytes
  have hr := B.returns
  have hts := atoms_spec (ws := wl yX8_warmth cX8_warmth 3 (some .int)) B.pre
  have htb : ∀ w ∈ tb, w.before _ s = true := fun w h => hts w (List.mem_cons_of_mem _ h)
  have hown : s.vm.findClass RX8 = some m.cls := findClass_of_methodNamed B.named
  have hlocks := B.notSynchronized
  subst hsz
  have hD := hD0.self (sz := s.heap.size)
  generalize hAe : va_A [(h0, .inr (8, xF a 0)), ((a 0), .inl (E 0, 400, .inl fw))] s.heap.size = A at hD ⊢
  have hA : ∀ q : Nat, s.heap.size ≤ q → A q := fun q h => by rw [← hAe]; exact Or.inr h
  have hS : va_S A s.heap s.heap [] := va_S.rf
  have hP : va_P D vwCl [(h0, .inr (8, xF a 0)), ((a 0), .inl (E 0, 400, .inl fw))] s.heap := hP
  have hl := lv_entry ([.ref h0, .int p0, .int p1]) (n := 3) (Nat.le_of_ble_eq_true rfl)
  rw [lg_entry_eq]
  generalize (lg_sl ([.ref h0, .int p0, .int p1]) ++ List.replicate (3 - (lg_sl ([.ref h0, .int p0, .int p1])).length) Slot.unset).toArray = ls at hl ⊢
  have hl : lv_has ls 3 [(0, .ref h0), (1, .int p0), (2, .int p1)] := hl
  have lo_p0 := i_lo p0
  have hi_p0 := i_hi p0
  have lo_p1 := i_lo p1
  have hi_p1 := i_hi p1
  refine lv_iload_n hx hb dX8_warmth_0 rfl (lv_at hl 1 rfl) ?_
  refine callRS (rest := []) (As := [.int p0]) hx hb hml hown htb hK (c_X8_isDay l D E p0 ) ok_X8_isDay k_323 k_324 k_1 k_325 ⟨(Nat.le_of_ble_eq_true rfl), (Nat.le_of_ble_eq_true rfl)⟩ ⟨(Nat.le_of_ble_eq_true rfl), (Nat.le_of_ble_eq_true rfl)⟩ hl.1 (Nat.le_of_ble_eq_true rfl) rfl rfl dX8_warmth_1 (hP.sub (ws' := ([] : va_W)) [] rfl) (fun r_2 hw_1 => ?_)
  rcases hw_1 with ⟨hr_2, hw_1⟩ | ⟨hr_2, hw_1⟩
  ·
    refine W_top (y := .int 1) (by rw [hr_2]) ?_
    refine lv_if_eq (tgt := 22) hx hb dX8_warmth_4 (by decide) (fun c_3 => absurd c_3 (by decide)) (fun c_3 => ?_)
    refine lv_iload_n hx hb dX8_warmth_7 rfl (lv_at hl 2 rfl) ?_
    refine lv_bipush (v := (-100)) hx hb dX8_warmth_8 (by decide) ?_
    refine lv_icmp_eq (tgt := 24) hx hb dX8_warmth_10 (by decide) (fun c_4 => ?_) (fun c_4 => ?_)
    ·
      have ic_4 : p1.toInt = -100 := (g_eq rfl t_m100).mp c_4
      refine lv_aload_n hx hb dX8_warmth_24 rfl (lv_at hl 0 rfl) ?_
      refine va_get (D := D) (ci := 8) (v := .ref (a 0)) (C := RX8) (T := TX8) (N := 14) hx hb htb iX8 hown hK.1 hP 0 rfl rfl 0 (by decide) (htb _ k_272) (fun _ h9 => h9) rfl dX8_warmth_25 ?_
      refine lv_iload_n hx hb dX8_warmth_28 rfl (lv_at hl 1 rfl) ?_
      refine lv_iload_n hx hb dX8_warmth_29 rfl (lv_at hl 2 rfl) ?_
      refine va_iast hx hb hK.1 hP hD hS 1 0 rfl rfl (g_in rfl (by omega) (by omega)) dX8_warmth_30 (fun H locs hP hD hS => ?_)
      have hP : va_P D vwCl [(h0, .inr (8, xF a 0)), ((a 0), .inl (E 0, 400, .inl (upd fw (p0 : Int32).toNatClampNeg p1)))] H := hP
      have hD : va_D A [(h0, .inr (8, xF a 0)), ((a 0), .inl (E 0, 400, .inl (upd fw (p0 : Int32).toNatClampNeg p1)))] := hD
      refine lv_iconst (v := 1) hx hb dX8_warmth_31 (by decide) ?_
      have hP9 := hP.sub (ws' := ([] : va_W)) [] rfl
      have hD9 := hD.sub (ws' := ([] : va_W)) [] (by decide) rfl
      exact W.iret (v := 1) hx hb hr (fun t ht hW => ⟨⟨1, (), rfl, by first | exact Or.inl ⟨rfl, by omega⟩ | (exfalso; omega), by rw [ht]; exact hP9, hD9⟩, hS.F ht⟩) hS.2.2 dX8_warmth_32
    ·
      have ic_4 : p1.toInt ≠ -100 := mt (g_eq rfl t_m100).mpr c_4
      refine lv_iload_n hx hb dX8_warmth_13 rfl (lv_at hl 2 rfl) ?_
      refine lv_bipush (v := 50) hx hb dX8_warmth_14 (by decide) ?_
      refine callRS (rest := []) (As := [.int p1, .int 50]) hx hb hml hown htb hK (c_X8_isWithin l D E p1 50 (by decide)) ok_X8_isWithin k_326 k_327 k_1 k_328 ⟨(Nat.le_of_ble_eq_true rfl), (Nat.le_of_ble_eq_true rfl)⟩ ⟨(Nat.le_of_ble_eq_true rfl), (Nat.le_of_ble_eq_true rfl)⟩ hl.1 (Nat.le_of_ble_eq_true rfl) rfl rfl dX8_warmth_16 (hP.sub (ws' := ([] : va_W)) [] rfl) (fun r_6 hw_5 => ?_)
      rcases hw_5 with ⟨hr_6, hw_5⟩ | ⟨hr_6, hw_5⟩
      ·
        try simp only [t_50] at hw_5
        refine W_top (y := .int 1) (by rw [hr_6]) ?_
        refine lv_if_ne (tgt := 24) hx hb dX8_warmth_19 (by decide) (fun c_7 => ?_) (fun c_7 => absurd c_7 (by decide))
        refine lv_aload_n hx hb dX8_warmth_24 rfl (lv_at hl 0 rfl) ?_
        refine va_get (D := D) (ci := 8) (v := .ref (a 0)) (C := RX8) (T := TX8) (N := 14) hx hb htb iX8 hown hK.1 hP 0 rfl rfl 0 (by decide) (htb _ k_272) (fun _ h9 => h9) rfl dX8_warmth_25 ?_
        refine lv_iload_n hx hb dX8_warmth_28 rfl (lv_at hl 1 rfl) ?_
        refine lv_iload_n hx hb dX8_warmth_29 rfl (lv_at hl 2 rfl) ?_
        refine va_iast hx hb hK.1 hP hD hS 1 0 rfl rfl (g_in rfl (by omega) (by omega)) dX8_warmth_30 (fun H locs hP hD hS => ?_)
        have hP : va_P D vwCl [(h0, .inr (8, xF a 0)), ((a 0), .inl (E 0, 400, .inl (upd fw (p0 : Int32).toNatClampNeg p1)))] H := hP
        have hD : va_D A [(h0, .inr (8, xF a 0)), ((a 0), .inl (E 0, 400, .inl (upd fw (p0 : Int32).toNatClampNeg p1)))] := hD
        refine lv_iconst (v := 1) hx hb dX8_warmth_31 (by decide) ?_
        have hP9 := hP.sub (ws' := ([] : va_W)) [] rfl
        have hD9 := hD.sub (ws' := ([] : va_W)) [] (by decide) rfl
        exact W.iret (v := 1) hx hb hr (fun t ht hW => ⟨⟨1, (), rfl, by first | exact Or.inl ⟨rfl, by omega⟩ | (exfalso; omega), by rw [ht]; exact hP9, hD9⟩, hS.F ht⟩) hS.2.2 dX8_warmth_32
      ·
        try simp only [t_50] at hw_5
        refine W_top (y := .int 0) (by rw [hr_6]) ?_
        refine lv_if_ne (tgt := 24) hx hb dX8_warmth_19 (by decide) (fun c_8 => absurd (by decide) c_8) (fun c_8 => ?_)
        refine lv_iconst (v := (-1)) hx hb dX8_warmth_22 (by decide) ?_
        have hP9 := hP.sub (ws' := ([] : va_W)) [] rfl
        have hD9 := hD.sub (ws' := ([] : va_W)) [] (by decide) rfl
        exact W.iret (v := (-1)) hx hb hr (fun t ht hW => ⟨⟨(-1), (), rfl, by first | exact Or.inr ⟨rfl, by omega⟩ | (exfalso; omega), by rw [ht]; exact hP9, hD9⟩, hS.F ht⟩) hS.2.2 dX8_warmth_23
  ·
    refine W_top (y := .int 0) (by rw [hr_2]) ?_
    refine lv_if_eq (tgt := 22) hx hb dX8_warmth_4 (by decide) (fun c_9 => ?_) (fun c_9 => absurd (by decide) c_9)
    refine lv_iconst (v := (-1)) hx hb dX8_warmth_22 (by decide) ?_
    have hP9 := hP.sub (ws' := ([] : va_W)) [] rfl
    have hD9 := hD.sub (ws' := ([] : va_W)) [] (by decide) rfl
    exact W.iret (v := (-1)) hx hb hr (fun t ht hW => ⟨⟨(-1), (), rfl, by first | exact Or.inr ⟨rfl, by omega⟩ | (exfalso; omega), by rw [ht]; exact hP9, hD9⟩, hS.F ht⟩) hS.2.2 dX8_warmth_23
set_option maxHeartbeats 4000000 in
set_option maxRecDepth 100000 in
theorem c_X2_add (l : Launch) (D : va_G) (E : Nat → Nat) (a : Nat → Nat) (p0 : Int32) (p1 : Int32) (p2 : Int32) (p3 : Int32) (p4 : Int32) (sz : Nat)  : Met l yX2_add (wl yX2_add cX2_add 6 none) (RM 0 0 0) (mu_P D E [.ref (a 6), .int p0, .int p1, .int p2, .int p3, .int p4] [((a 6), .inr (2, [.ref (a 18), .ref (a 19), .ref (a 20), .ref (a 21), .ref (a 22), .int 0])), ((a 18), .inl (E 0, 60, .inl (fun _ => 0))), ((a 19), .inl (E 0, 60, .inl (fun _ => 0))), ((a 20), .inl (E 0, 60, .inl (fun _ => 0))), ((a 21), .inl (E 0, 60, .inl (fun _ => 0))), ((a 22), .inl (E 0, 60, .inl (fun _ => 0)))] sz) (va_Qv (fun (u : Unit) => True) (mu_B D (va_A [((a 6), .inr (2, [.ref (a 18), .ref (a 19), .ref (a 20), .ref (a 21), .ref (a 22), .int 0])), ((a 18), .inl (E 0, 60, .inl (fun _ => 0))), ((a 19), .inl (E 0, 60, .inl (fun _ => 0))), ((a 20), .inl (E 0, 60, .inl (fun _ => 0))), ((a 21), .inl (E 0, 60, .inl (fun _ => 0))), ((a 22), .inl (E 0, 60, .inl (fun _ => 0)))] sz) (fun (u : Unit) => [((a 6), .inr (2, [.ref (a 18), .ref (a 19), .ref (a 20), .ref (a 21), .ref (a 22), .int 1]))])) (va_A [((a 6), .inr (2, [.ref (a 18), .ref (a 19), .ref (a 20), .ref (a 21), .ref (a 22), .int 0])), ((a 18), .inl (E 0, 60, .inl (fun _ => 0))), ((a 19), .inl (E 0, 60, .inl (fun _ => 0))), ((a 20), .inl (E 0, 60, .inl (fun _ => 0))), ((a 21), .inl (E 0, 60, .inl (fun _ => 0))), ((a 22), .inl (E 0, 60, .inl (fun _ => 0)))] sz)) 0 0 (va_A [((a 6), .inr (2, [.ref (a 18), .ref (a 19), .ref (a 20), .ref (a 21), .ref (a 22), .int 0])), ((a 18), .inl (E 0, 60, .inl (fun _ => 0))), ((a 19), .inl (E 0, 60, .inl (fun _ => 0))), ((a 20), .inl (E 0, 60, .inl (fun _ => 0))), ((a 21), .inl (E 0, 60, .inl (fun _ => 0))), ((a 22), .inl (E 0, 60, .inl (fun _ => 0)))] sz) := by
  refine Met.ofW (cc := cX2_add) (maxL := 6) (ret := none) (by decide) rfl ?_
  intro p e s m args below meth c s₁ B hml hv
  obtain ⟨rfl, hsz, hP, hK, hD0⟩ := hv
  have hx := B.exec
  have hb := B.bytes
  have hr := B.returns
  have hts := atoms_spec (ws := wl yX2_add cX2_add 6 none) B.pre
  have htb : ∀ w ∈ tb, w.before _ s = true := fun w h => hts w (List.mem_cons_of_mem _ h)
  have hown : s.vm.findClass RX2 = some m.cls := findClass_of_methodNamed B.named
  have hlocks := B.notSynchronized
  subst hsz
  have hD := hD0.self (sz := s.heap.size)
  generalize hAe : va_A [((a 6), .inr (2, [.ref (a 18), .ref (a 19), .ref (a 20), .ref (a 21), .ref (a 22), .int 0])), ((a 18), .inl (E 0, 60, .inl (fun _ => 0))), ((a 19), .inl (E 0, 60, .inl (fun _ => 0))), ((a 20), .inl (E 0, 60, .inl (fun _ => 0))), ((a 21), .inl (E 0, 60, .inl (fun _ => 0))), ((a 22), .inl (E 0, 60, .inl (fun _ => 0)))] s.heap.size = A at hD ⊢
  have hA : ∀ q : Nat, s.heap.size ≤ q → A q := fun q h => by rw [← hAe]; exact Or.inr h
  have hS : va_S A s.heap s.heap [] := va_S.rf
  have hP : va_P D vwCl [((a 6), .inr (2, [.ref (a 18), .ref (a 19), .ref (a 20), .ref (a 21), .ref (a 22), .int 0])), ((a 18), .inl (E 0, 60, .inl (fun _ => 0))), ((a 19), .inl (E 0, 60, .inl (fun _ => 0))), ((a 20), .inl (E 0, 60, .inl (fun _ => 0))), ((a 21), .inl (E 0, 60, .inl (fun _ => 0))), ((a 22), .inl (E 0, 60, .inl (fun _ => 0)))] s.heap := hP
  have hl := lv_entry ([.ref (a 6), .int p0, .int p1, .int p2, .int p3, .int p4]) (n := 6) (Nat.le_of_ble_eq_true rfl)
  rw [lg_entry_eq]
  generalize (lg_sl ([.ref (a 6), .int p0, .int p1, .int p2, .int p3, .int p4]) ++ List.replicate (6 - (lg_sl ([.ref (a 6), .int p0, .int p1, .int p2, .int p3, .int p4])).length) Slot.unset).toArray = ls at hl ⊢
  have hl : lv_has ls 6 [(0, .ref (a 6)), (1, .int p0), (2, .int p1), (3, .int p2), (4, .int p3), (5, .int p4)] := hl
  have lo_p0 := i_lo p0
  have hi_p0 := i_hi p0
  have lo_p1 := i_lo p1
  have hi_p1 := i_hi p1
  have lo_p2 := i_lo p2
  have hi_p2 := i_hi p2
  have lo_p3 := i_lo p3
  have hi_p3 := i_hi p3
  have lo_p4 := i_lo p4
  have hi_p4 := i_hi p4
  refine lv_aload_n hx hb dX2_add_0 rfl (lv_at hl 0 rfl) ?_
  refine va_get (D := D) (ci := 2) (v := .int 0) (C := RX2) (T := TX2) (N := 6) hx hb htb iX2 hown hK.1 hP 0 rfl rfl 5 (by decide) (htb _ k_39) (fun _ h9 => h9) rfl dX2_add_1 ?_
  refine lv_bipush (v := 60) hx hb dX2_add_4 (by decide) ?_
  refine lv_icmp_lt (tgt := 10) hx hb dX2_add_6 (by decide) (fun c_1 => ?_) (fun c_1 => absurd (by decide) c_1)
  refine lv_aload_n hx hb dX2_add_10 rfl (lv_at hl 0 rfl) ?_
  refine va_get (D := D) (ci := 2) (v := .ref (a 18)) (C := RX2) (T := TX2) (N := 6) hx hb htb iX2 hown hK.1 hP 0 rfl rfl 0 (by decide) (htb _ k_34) (fun _ h9 => h9) rfl dX2_add_11 ?_
  refine lv_aload_n hx hb dX2_add_14 rfl (lv_at hl 0 rfl) ?_
  refine va_get (D := D) (ci := 2) (v := .int 0) (C := RX2) (T := TX2) (N := 6) hx hb htb iX2 hown hK.1 hP 0 rfl rfl 5 (by decide) (htb _ k_39) (fun _ h9 => h9) rfl dX2_add_15 ?_
  refine lv_iload_n hx hb dX2_add_18 rfl (lv_at hl 1 rfl) ?_
  refine va_iast hx hb hK.1 hP hD hS 1 0 rfl rfl (g_in t_0 (by decide) (by decide)) dX2_add_19 (fun H locs hP hD hS => ?_)
  have hP : va_P D vwCl [((a 6), .inr (2, [.ref (a 18), .ref (a 19), .ref (a 20), .ref (a 21), .ref (a 22), .int 0])), ((a 18), .inl (E 0, 60, .inl (upd (fun _ => 0) (0 : Int32).toNatClampNeg p0))), ((a 19), .inl (E 0, 60, .inl (fun _ => 0))), ((a 20), .inl (E 0, 60, .inl (fun _ => 0))), ((a 21), .inl (E 0, 60, .inl (fun _ => 0))), ((a 22), .inl (E 0, 60, .inl (fun _ => 0)))] H := hP
  have hD : va_D A [((a 6), .inr (2, [.ref (a 18), .ref (a 19), .ref (a 20), .ref (a 21), .ref (a 22), .int 0])), ((a 18), .inl (E 0, 60, .inl (upd (fun _ => 0) (0 : Int32).toNatClampNeg p0))), ((a 19), .inl (E 0, 60, .inl (fun _ => 0))), ((a 20), .inl (E 0, 60, .inl (fun _ => 0))), ((a 21), .inl (E 0, 60, .inl (fun _ => 0))), ((a 22), .inl (E 0, 60, .inl (fun _ => 0)))] := hD
  refine lv_aload_n hx hb dX2_add_20 rfl (lv_at hl 0 rfl) ?_
  refine va_get (D := D) (ci := 2) (v := .ref (a 19)) (C := RX2) (T := TX2) (N := 6) hx hb htb iX2 hown hK.1 hP 0 rfl rfl 1 (by decide) (htb _ k_35) (fun _ h9 => h9) rfl dX2_add_21 ?_
  refine lv_aload_n hx hb dX2_add_24 rfl (lv_at hl 0 rfl) ?_
  refine va_get (D := D) (ci := 2) (v := .int 0) (C := RX2) (T := TX2) (N := 6) hx hb htb iX2 hown hK.1 hP 0 rfl rfl 5 (by decide) (htb _ k_39) (fun _ h9 => h9) rfl dX2_add_25 ?_
  refine lv_iload_n hx hb dX2_add_28 rfl (lv_at hl 2 rfl) ?_
  refine va_iast hx hb hK.1 hP hD hS 2 0 rfl rfl (g_in t_0 (by decide) (by decide)) dX2_add_29 (fun H locs hP hD hS => ?_)
  have hP : va_P D vwCl [((a 6), .inr (2, [.ref (a 18), .ref (a 19), .ref (a 20), .ref (a 21), .ref (a 22), .int 0])), ((a 18), .inl (E 0, 60, .inl (upd (fun _ => 0) (0 : Int32).toNatClampNeg p0))), ((a 19), .inl (E 0, 60, .inl (upd (fun _ => 0) (0 : Int32).toNatClampNeg p1))), ((a 20), .inl (E 0, 60, .inl (fun _ => 0))), ((a 21), .inl (E 0, 60, .inl (fun _ => 0))), ((a 22), .inl (E 0, 60, .inl (fun _ => 0)))] H := hP
  have hD : va_D A [((a 6), .inr (2, [.ref (a 18), .ref (a 19), .ref (a 20), .ref (a 21), .ref (a 22), .int 0])), ((a 18), .inl (E 0, 60, .inl (upd (fun _ => 0) (0 : Int32).toNatClampNeg p0))), ((a 19), .inl (E 0, 60, .inl (upd (fun _ => 0) (0 : Int32).toNatClampNeg p1))), ((a 20), .inl (E 0, 60, .inl (fun _ => 0))), ((a 21), .inl (E 0, 60, .inl (fun _ => 0))), ((a 22), .inl (E 0, 60, .inl (fun _ => 0)))] := hD
  refine lv_aload_n hx hb dX2_add_30 rfl (lv_at hl 0 rfl) ?_
  refine va_get (D := D) (ci := 2) (v := .ref (a 20)) (C := RX2) (T := TX2) (N := 6) hx hb htb iX2 hown hK.1 hP 0 rfl rfl 2 (by decide) (htb _ k_36) (fun _ h9 => h9) rfl dX2_add_31 ?_
  refine lv_aload_n hx hb dX2_add_34 rfl (lv_at hl 0 rfl) ?_
  refine va_get (D := D) (ci := 2) (v := .int 0) (C := RX2) (T := TX2) (N := 6) hx hb htb iX2 hown hK.1 hP 0 rfl rfl 5 (by decide) (htb _ k_39) (fun _ h9 => h9) rfl dX2_add_35 ?_
  refine lv_iload_n hx hb dX2_add_38 rfl (lv_at hl 3 rfl) ?_
  refine va_iast hx hb hK.1 hP hD hS 3 0 rfl rfl (g_in t_0 (by decide) (by decide)) dX2_add_39 (fun H locs hP hD hS => ?_)
  have hP : va_P D vwCl [((a 6), .inr (2, [.ref (a 18), .ref (a 19), .ref (a 20), .ref (a 21), .ref (a 22), .int 0])), ((a 18), .inl (E 0, 60, .inl (upd (fun _ => 0) (0 : Int32).toNatClampNeg p0))), ((a 19), .inl (E 0, 60, .inl (upd (fun _ => 0) (0 : Int32).toNatClampNeg p1))), ((a 20), .inl (E 0, 60, .inl (upd (fun _ => 0) (0 : Int32).toNatClampNeg p2))), ((a 21), .inl (E 0, 60, .inl (fun _ => 0))), ((a 22), .inl (E 0, 60, .inl (fun _ => 0)))] H := hP
  have hD : va_D A [((a 6), .inr (2, [.ref (a 18), .ref (a 19), .ref (a 20), .ref (a 21), .ref (a 22), .int 0])), ((a 18), .inl (E 0, 60, .inl (upd (fun _ => 0) (0 : Int32).toNatClampNeg p0))), ((a 19), .inl (E 0, 60, .inl (upd (fun _ => 0) (0 : Int32).toNatClampNeg p1))), ((a 20), .inl (E 0, 60, .inl (upd (fun _ => 0) (0 : Int32).toNatClampNeg p2))), ((a 21), .inl (E 0, 60, .inl (fun _ => 0))), ((a 22), .inl (E 0, 60, .inl (fun _ => 0)))] := hD
  refine lv_aload_n hx hb dX2_add_40 rfl (lv_at hl 0 rfl) ?_
  refine va_get (D := D) (ci := 2) (v := .ref (a 21)) (C := RX2) (T := TX2) (N := 6) hx hb htb iX2 hown hK.1 hP 0 rfl rfl 3 (by decide) (htb _ k_37) (fun _ h9 => h9) rfl dX2_add_41 ?_
  refine lv_aload_n hx hb dX2_add_44 rfl (lv_at hl 0 rfl) ?_
  refine va_get (D := D) (ci := 2) (v := .int 0) (C := RX2) (T := TX2) (N := 6) hx hb htb iX2 hown hK.1 hP 0 rfl rfl 5 (by decide) (htb _ k_39) (fun _ h9 => h9) rfl dX2_add_45 ?_
  refine lv_iload hx hb dX2_add_48 (lv_at hl 4 rfl) ?_
  refine va_iast hx hb hK.1 hP hD hS 4 0 rfl rfl (g_in t_0 (by decide) (by decide)) dX2_add_50 (fun H locs hP hD hS => ?_)
  have hP : va_P D vwCl [((a 6), .inr (2, [.ref (a 18), .ref (a 19), .ref (a 20), .ref (a 21), .ref (a 22), .int 0])), ((a 18), .inl (E 0, 60, .inl (upd (fun _ => 0) (0 : Int32).toNatClampNeg p0))), ((a 19), .inl (E 0, 60, .inl (upd (fun _ => 0) (0 : Int32).toNatClampNeg p1))), ((a 20), .inl (E 0, 60, .inl (upd (fun _ => 0) (0 : Int32).toNatClampNeg p2))), ((a 21), .inl (E 0, 60, .inl (upd (fun _ => 0) (0 : Int32).toNatClampNeg p3))), ((a 22), .inl (E 0, 60, .inl (fun _ => 0)))] H := hP
  have hD : va_D A [((a 6), .inr (2, [.ref (a 18), .ref (a 19), .ref (a 20), .ref (a 21), .ref (a 22), .int 0])), ((a 18), .inl (E 0, 60, .inl (upd (fun _ => 0) (0 : Int32).toNatClampNeg p0))), ((a 19), .inl (E 0, 60, .inl (upd (fun _ => 0) (0 : Int32).toNatClampNeg p1))), ((a 20), .inl (E 0, 60, .inl (upd (fun _ => 0) (0 : Int32).toNatClampNeg p2))), ((a 21), .inl (E 0, 60, .inl (upd (fun _ => 0) (0 : Int32).toNatClampNeg p3))), ((a 22), .inl (E 0, 60, .inl (fun _ => 0)))] := hD
  refine lv_aload_n hx hb dX2_add_51 rfl (lv_at hl 0 rfl) ?_
  refine va_get (D := D) (ci := 2) (v := .ref (a 22)) (C := RX2) (T := TX2) (N := 6) hx hb htb iX2 hown hK.1 hP 0 rfl rfl 4 (by decide) (htb _ k_38) (fun _ h9 => h9) rfl dX2_add_52 ?_
  refine lv_aload_n hx hb dX2_add_55 rfl (lv_at hl 0 rfl) ?_
  refine va_get (D := D) (ci := 2) (v := .int 0) (C := RX2) (T := TX2) (N := 6) hx hb htb iX2 hown hK.1 hP 0 rfl rfl 5 (by decide) (htb _ k_39) (fun _ h9 => h9) rfl dX2_add_56 ?_
  refine lv_iload hx hb dX2_add_59 (lv_at hl 5 rfl) ?_
  refine va_iast hx hb hK.1 hP hD hS 5 0 rfl rfl (g_in t_0 (by decide) (by decide)) dX2_add_61 (fun H locs hP hD hS => ?_)
  have hP : va_P D vwCl [((a 6), .inr (2, [.ref (a 18), .ref (a 19), .ref (a 20), .ref (a 21), .ref (a 22), .int 0])), ((a 18), .inl (E 0, 60, .inl (upd (fun _ => 0) (0 : Int32).toNatClampNeg p0))), ((a 19), .inl (E 0, 60, .inl (upd (fun _ => 0) (0 : Int32).toNatClampNeg p1))), ((a 20), .inl (E 0, 60, .inl (upd (fun _ => 0) (0 : Int32).toNatClampNeg p2))), ((a 21), .inl (E 0, 60, .inl (upd (fun _ => 0) (0 : Int32).toNatClampNeg p3))), ((a 22), .inl (E 0, 60, .inl (upd (fun _ => 0) (0 : Int32).toNatClampNeg p4)))] H := hP
  have hD : va_D A [((a 6), .inr (2, [.ref (a 18), .ref (a 19), .ref (a 20), .ref (a 21), .ref (a 22), .int 0])), ((a 18), .inl (E 0, 60, .inl (upd (fun _ => 0) (0 : Int32).toNatClampNeg p0))), ((a 19), .inl (E 0, 60, .inl (upd (fun _ => 0) (0 : Int32).toNatClampNeg p1))), ((a 20), .inl (E 0, 60, .inl (upd (fun _ => 0) (0 : Int32).toNatClampNeg p2))), ((a 21), .inl (E 0, 60, .inl (upd (fun _ => 0) (0 : Int32).toNatClampNeg p3))), ((a 22), .inl (E 0, 60, .inl (upd (fun _ => 0) (0 : Int32).toNatClampNeg p4)))] := hD
  refine lv_aload_n hx hb dX2_add_62 rfl (lv_at hl 0 rfl) ?_
  refine lv_dup hx hb dX2_add_63 rfl ?_
  refine va_get (D := D) (ci := 2) (v := .int 0) (C := RX2) (T := TX2) (N := 6) hx hb htb iX2 hown hK.1 hP 0 rfl rfl 5 (by decide) (htb _ k_39) (fun _ h9 => h9) rfl dX2_add_64 ?_
  refine lv_iconst (v := 1) hx hb dX2_add_67 (by decide) ?_
  refine lv_iadd hx hb dX2_add_68 ?_
  refine W_top (y := .int 1) (by decide) ?_
  refine va_put (D := D) (ci := 2) (v := .int 1) (ty := .int) (C := RX2) (T := TX2) (N := 6) hx hb htb iX2 tyX2 tyX2_ok nmX2 hown hK.1 hP hD hS 0 rfl rfl 5 (by decide) (htb _ k_39) (fun _ h9 => h9) rfl (by decide +kernel) rfl rfl (Nat.le_of_ble_eq_true rfl) dX2_add_69 (fun H locs hP hD hS => ?_)
  have hP : va_P D vwCl [((a 6), .inr (2, [.ref (a 18), .ref (a 19), .ref (a 20), .ref (a 21), .ref (a 22), .int 1])), ((a 18), .inl (E 0, 60, .inl (upd (fun _ => 0) (0 : Int32).toNatClampNeg p0))), ((a 19), .inl (E 0, 60, .inl (upd (fun _ => 0) (0 : Int32).toNatClampNeg p1))), ((a 20), .inl (E 0, 60, .inl (upd (fun _ => 0) (0 : Int32).toNatClampNeg p2))), ((a 21), .inl (E 0, 60, .inl (upd (fun _ => 0) (0 : Int32).toNatClampNeg p3))), ((a 22), .inl (E 0, 60, .inl (upd (fun _ => 0) (0 : Int32).toNatClampNeg p4)))] H := hP
  have hD : va_D A [((a 6), .inr (2, [.ref (a 18), .ref (a 19), .ref (a 20), .ref (a 21), .ref (a 22), .int 1])), ((a 18), .inl (E 0, 60, .inl (upd (fun _ => 0) (0 : Int32).toNatClampNeg p0))), ((a 19), .inl (E 0, 60, .inl (upd (fun _ => 0) (0 : Int32).toNatClampNeg p1))), ((a 20), .inl (E 0, 60, .inl (upd (fun _ => 0) (0 : Int32).toNatClampNeg p2))), ((a 21), .inl (E 0, 60, .inl (upd (fun _ => 0) (0 : Int32).toNatClampNeg p3))), ((a 22), .inl (E 0, 60, .inl (upd (fun _ => 0) (0 : Int32).toNatClampNeg p4)))] := hD
  have hP9 := hP.sub (ws' := [((a 6), .inr (2, [.ref (a 18), .ref (a 19), .ref (a 20), .ref (a 21), .ref (a 22), .int 1]))]) [0] rfl
  have hD9 := hD.sub (ws' := [((a 6), .inr (2, [.ref (a 18), .ref (a 19), .ref (a 20), .ref (a 21), .ref (a 22), .int 1]))]) [0] (by decide) rfl
  exact W.vret hx hb hr (fun t ht hW => ⟨⟨(), rfl, trivial, by rw [ht]; exact hP9, hD9⟩, hS.F ht⟩) hS.2.2 dX2_add_72
set_option maxHeartbeats 4000000 in
set_option maxRecDepth 100000 in
theorem c_X6_add0 (l : Launch) (D : va_G) (E : Nat → Nat) (a : Nat → Nat) (q3 : Nat) (f : Nat → Int32) (p0 : Int32) (sz : Nat)  : Met l yX6_add (wl yX6_add cX6_add 2 none) (RM 0 0 0) (mu_P D E [.ref (a 9), .int p0] [((a 9), .inr (6, [.ref (a 23), .int 0, .ref (a 24), .ref q3, .int 0, .int 0, .int 0, .int 0])), ((a 23), .inl (E 0, 120, .inl f))] sz) (va_Qv (fun (u : Nat → Int32) => True) (mu_B D (va_A [((a 9), .inr (6, [.ref (a 23), .int 0, .ref (a 24), .ref q3, .int 0, .int 0, .int 0, .int 0])), ((a 23), .inl (E 0, 120, .inl f))] sz) (fun (u : Nat → Int32) => [((a 9), .inr (6, [.ref (a 23), .int 1, .ref (a 24), .ref q3, .int 0, .int 0, .int 0, .int 0])), ((a 23), .inl (E 0, 120, .inl u))])) (va_A [((a 9), .inr (6, [.ref (a 23), .int 0, .ref (a 24), .ref q3, .int 0, .int 0, .int 0, .int 0])), ((a 23), .inl (E 0, 120, .inl f))] sz)) 0 0 (va_A [((a 9), .inr (6, [.ref (a 23), .int 0, .ref (a 24), .ref q3, .int 0, .int 0, .int 0, .int 0])), ((a 23), .inl (E 0, 120, .inl f))] sz) := by
  refine Met.ofW (cc := cX6_add) (maxL := 2) (ret := none) (by decide) rfl ?_
  intro p e s m args below meth c s₁ B hml hv
  obtain ⟨rfl, hsz, hP, hK, hD0⟩ := hv
  have hx := B.exec
  have hb := B.bytes
  have hr := B.returns
  have hts := atoms_spec (ws := wl yX6_add cX6_add 2 none) B.pre
  have htb : ∀ w ∈ tb, w.before _ s = true := fun w h => hts w (List.mem_cons_of_mem _ h)
  have hown : s.vm.findClass RX6 = some m.cls := findClass_of_methodNamed B.named
  have hlocks := B.notSynchronized
  subst hsz
  have hD := hD0.self (sz := s.heap.size)
  generalize hAe : va_A [((a 9), .inr (6, [.ref (a 23), .int 0, .ref (a 24), .ref q3, .int 0, .int 0, .int 0, .int 0])), ((a 23), .inl (E 0, 120, .inl f))] s.heap.size = A at hD ⊢
  have hA : ∀ q : Nat, s.heap.size ≤ q → A q := fun q h => by rw [← hAe]; exact Or.inr h
  have hS : va_S A s.heap s.heap [] := va_S.rf
  have hP : va_P D vwCl [((a 9), .inr (6, [.ref (a 23), .int 0, .ref (a 24), .ref q3, .int 0, .int 0, .int 0, .int 0])), ((a 23), .inl (E 0, 120, .inl f))] s.heap := hP
  have hl := lv_entry ([.ref (a 9), .int p0]) (n := 2) (Nat.le_of_ble_eq_true rfl)
  rw [lg_entry_eq]
  generalize (lg_sl ([.ref (a 9), .int p0]) ++ List.replicate (2 - (lg_sl ([.ref (a 9), .int p0])).length) Slot.unset).toArray = ls at hl ⊢
  have hl : lv_has ls 2 [(0, .ref (a 9)), (1, .int p0)] := hl
  have lo_p0 := i_lo p0
  have hi_p0 := i_hi p0
  refine lv_aload_n hx hb dX6_add_0 rfl (lv_at hl 0 rfl) ?_
  refine va_get (D := D) (ci := 6) (v := .int 0) (C := RX6) (T := TX6) (N := 8) hx hb htb iX6 hown hK.1 hP 0 rfl rfl 1 (by decide) (htb _ k_158) (fun _ h9 => h9) rfl dX6_add_1 ?_
  refine lv_bipush (v := 120) hx hb dX6_add_4 (by decide) ?_
  refine lv_icmp_ge (tgt := 29) hx hb dX6_add_6 (by decide) (fun c_1 => absurd c_1 (by decide)) (fun c_1 => ?_)
  refine lv_aload_n hx hb dX6_add_9 rfl (lv_at hl 0 rfl) ?_
  refine va_get (D := D) (ci := 6) (v := .ref (a 23)) (C := RX6) (T := TX6) (N := 8) hx hb htb iX6 hown hK.1 hP 0 rfl rfl 0 (by decide) (htb _ k_157) (fun _ h9 => h9) rfl dX6_add_10 ?_
  refine lv_aload_n hx hb dX6_add_13 rfl (lv_at hl 0 rfl) ?_
  refine va_get (D := D) (ci := 6) (v := .int 0) (C := RX6) (T := TX6) (N := 8) hx hb htb iX6 hown hK.1 hP 0 rfl rfl 1 (by decide) (htb _ k_158) (fun _ h9 => h9) rfl dX6_add_14 ?_
  refine lv_iload_n hx hb dX6_add_17 rfl (lv_at hl 1 rfl) ?_
  refine va_iast hx hb hK.1 hP hD hS 1 0 rfl rfl (g_in t_0 (by decide) (by decide)) dX6_add_18 (fun H locs hP hD hS => ?_)
  have hP : va_P D vwCl [((a 9), .inr (6, [.ref (a 23), .int 0, .ref (a 24), .ref q3, .int 0, .int 0, .int 0, .int 0])), ((a 23), .inl (E 0, 120, .inl (upd f (0 : Int32).toNatClampNeg p0)))] H := hP
  have hD : va_D A [((a 9), .inr (6, [.ref (a 23), .int 0, .ref (a 24), .ref q3, .int 0, .int 0, .int 0, .int 0])), ((a 23), .inl (E 0, 120, .inl (upd f (0 : Int32).toNatClampNeg p0)))] := hD
  refine lv_aload_n hx hb dX6_add_19 rfl (lv_at hl 0 rfl) ?_
  refine lv_dup hx hb dX6_add_20 rfl ?_
  refine va_get (D := D) (ci := 6) (v := .int 0) (C := RX6) (T := TX6) (N := 8) hx hb htb iX6 hown hK.1 hP 0 rfl rfl 1 (by decide) (htb _ k_158) (fun _ h9 => h9) rfl dX6_add_21 ?_
  refine lv_iconst (v := 1) hx hb dX6_add_24 (by decide) ?_
  refine lv_iadd hx hb dX6_add_25 ?_
  refine W_top (y := .int 1) (by decide) ?_
  refine va_put (D := D) (ci := 6) (v := .int 1) (ty := .int) (C := RX6) (T := TX6) (N := 8) hx hb htb iX6 tyX6 tyX6_ok nmX6 hown hK.1 hP hD hS 0 rfl rfl 1 (by decide) (htb _ k_158) (fun _ h9 => h9) rfl (by decide +kernel) rfl rfl (Nat.le_of_ble_eq_true rfl) dX6_add_26 (fun H locs hP hD hS => ?_)
  have hP : va_P D vwCl [((a 9), .inr (6, [.ref (a 23), .int 1, .ref (a 24), .ref q3, .int 0, .int 0, .int 0, .int 0])), ((a 23), .inl (E 0, 120, .inl (upd f (0 : Int32).toNatClampNeg p0)))] H := hP
  have hD : va_D A [((a 9), .inr (6, [.ref (a 23), .int 1, .ref (a 24), .ref q3, .int 0, .int 0, .int 0, .int 0])), ((a 23), .inl (E 0, 120, .inl (upd f (0 : Int32).toNatClampNeg p0)))] := hD
  have hP9 := hP.sub (ws' := [((a 9), .inr (6, [.ref (a 23), .int 1, .ref (a 24), .ref q3, .int 0, .int 0, .int 0, .int 0])), ((a 23), .inl (E 0, 120, .inl (upd f (0 : Int32).toNatClampNeg p0)))]) [0, 1] rfl
  have hD9 := hD.sub (ws' := [((a 9), .inr (6, [.ref (a 23), .int 1, .ref (a 24), .ref q3, .int 0, .int 0, .int 0, .int 0])), ((a 23), .inl (E 0, 120, .inl (upd f (0 : Int32).toNatClampNeg p0)))]) [0, 1] (by decide) rfl
  exact W.vret hx hb hr (fun t ht hW => ⟨⟨(upd f (0 : Int32).toNatClampNeg p0), rfl, trivial, by rw [ht]; exact hP9, hD9⟩, hS.F ht⟩) hS.2.2 dX6_add_29
set_option maxHeartbeats 4000000 in
set_option maxRecDepth 100000 in
theorem c_X6_add1 (l : Launch) (D : va_G) (E : Nat → Nat) (a : Nat → Nat) (q3 : Nat) (f : Nat → Int32) (p0 : Int32) (sz : Nat)  : Met l yX6_add (wl yX6_add cX6_add 2 none) (RM 0 0 0) (mu_P D E [.ref (a 9), .int p0] [((a 9), .inr (6, [.ref (a 23), .int 1, .ref (a 24), .ref q3, .int 0, .int 0, .int 0, .int 0])), ((a 23), .inl (E 0, 120, .inl f))] sz) (va_Qv (fun (u : Nat → Int32) => True) (mu_B D (va_A [((a 9), .inr (6, [.ref (a 23), .int 1, .ref (a 24), .ref q3, .int 0, .int 0, .int 0, .int 0])), ((a 23), .inl (E 0, 120, .inl f))] sz) (fun (u : Nat → Int32) => [((a 9), .inr (6, [.ref (a 23), .int 2, .ref (a 24), .ref q3, .int 0, .int 0, .int 0, .int 0])), ((a 23), .inl (E 0, 120, .inl u))])) (va_A [((a 9), .inr (6, [.ref (a 23), .int 1, .ref (a 24), .ref q3, .int 0, .int 0, .int 0, .int 0])), ((a 23), .inl (E 0, 120, .inl f))] sz)) 0 0 (va_A [((a 9), .inr (6, [.ref (a 23), .int 1, .ref (a 24), .ref q3, .int 0, .int 0, .int 0, .int 0])), ((a 23), .inl (E 0, 120, .inl f))] sz) := by
  refine Met.ofW (cc := cX6_add) (maxL := 2) (ret := none) (by decide) rfl ?_
  intro p e s m args below meth c s₁ B hml hv
  obtain ⟨rfl, hsz, hP, hK, hD0⟩ := hv
  have hx := B.exec
  have hb := B.bytes
  have hr := B.returns
  have hts := atoms_spec (ws := wl yX6_add cX6_add 2 none) B.pre
  have htb : ∀ w ∈ tb, w.before _ s = true := fun w h => hts w (List.mem_cons_of_mem _ h)
  have hown : s.vm.findClass RX6 = some m.cls := findClass_of_methodNamed B.named
  have hlocks := B.notSynchronized
  subst hsz
  have hD := hD0.self (sz := s.heap.size)
  generalize hAe : va_A [((a 9), .inr (6, [.ref (a 23), .int 1, .ref (a 24), .ref q3, .int 0, .int 0, .int 0, .int 0])), ((a 23), .inl (E 0, 120, .inl f))] s.heap.size = A at hD ⊢
  have hA : ∀ q : Nat, s.heap.size ≤ q → A q := fun q h => by rw [← hAe]; exact Or.inr h
  have hS : va_S A s.heap s.heap [] := va_S.rf
  have hP : va_P D vwCl [((a 9), .inr (6, [.ref (a 23), .int 1, .ref (a 24), .ref q3, .int 0, .int 0, .int 0, .int 0])), ((a 23), .inl (E 0, 120, .inl f))] s.heap := hP
  have hl := lv_entry ([.ref (a 9), .int p0]) (n := 2) (Nat.le_of_ble_eq_true rfl)
  rw [lg_entry_eq]
  generalize (lg_sl ([.ref (a 9), .int p0]) ++ List.replicate (2 - (lg_sl ([.ref (a 9), .int p0])).length) Slot.unset).toArray = ls at hl ⊢
  have hl : lv_has ls 2 [(0, .ref (a 9)), (1, .int p0)] := hl
  have lo_p0 := i_lo p0
  have hi_p0 := i_hi p0
  refine lv_aload_n hx hb dX6_add_0 rfl (lv_at hl 0 rfl) ?_
  refine va_get (D := D) (ci := 6) (v := .int 1) (C := RX6) (T := TX6) (N := 8) hx hb htb iX6 hown hK.1 hP 0 rfl rfl 1 (by decide) (htb _ k_158) (fun _ h9 => h9) rfl dX6_add_1 ?_
  refine lv_bipush (v := 120) hx hb dX6_add_4 (by decide) ?_
  refine lv_icmp_ge (tgt := 29) hx hb dX6_add_6 (by decide) (fun c_1 => absurd c_1 (by decide)) (fun c_1 => ?_)
  refine lv_aload_n hx hb dX6_add_9 rfl (lv_at hl 0 rfl) ?_
  refine va_get (D := D) (ci := 6) (v := .ref (a 23)) (C := RX6) (T := TX6) (N := 8) hx hb htb iX6 hown hK.1 hP 0 rfl rfl 0 (by decide) (htb _ k_157) (fun _ h9 => h9) rfl dX6_add_10 ?_
  refine lv_aload_n hx hb dX6_add_13 rfl (lv_at hl 0 rfl) ?_
  refine va_get (D := D) (ci := 6) (v := .int 1) (C := RX6) (T := TX6) (N := 8) hx hb htb iX6 hown hK.1 hP 0 rfl rfl 1 (by decide) (htb _ k_158) (fun _ h9 => h9) rfl dX6_add_14 ?_
  refine lv_iload_n hx hb dX6_add_17 rfl (lv_at hl 1 rfl) ?_
  refine va_iast hx hb hK.1 hP hD hS 1 0 rfl rfl (g_in t_1 (by decide) (by decide)) dX6_add_18 (fun H locs hP hD hS => ?_)
  have hP : va_P D vwCl [((a 9), .inr (6, [.ref (a 23), .int 1, .ref (a 24), .ref q3, .int 0, .int 0, .int 0, .int 0])), ((a 23), .inl (E 0, 120, .inl (upd f (1 : Int32).toNatClampNeg p0)))] H := hP
  have hD : va_D A [((a 9), .inr (6, [.ref (a 23), .int 1, .ref (a 24), .ref q3, .int 0, .int 0, .int 0, .int 0])), ((a 23), .inl (E 0, 120, .inl (upd f (1 : Int32).toNatClampNeg p0)))] := hD
  refine lv_aload_n hx hb dX6_add_19 rfl (lv_at hl 0 rfl) ?_
  refine lv_dup hx hb dX6_add_20 rfl ?_
  refine va_get (D := D) (ci := 6) (v := .int 1) (C := RX6) (T := TX6) (N := 8) hx hb htb iX6 hown hK.1 hP 0 rfl rfl 1 (by decide) (htb _ k_158) (fun _ h9 => h9) rfl dX6_add_21 ?_
  refine lv_iconst (v := 1) hx hb dX6_add_24 (by decide) ?_
  refine lv_iadd hx hb dX6_add_25 ?_
  refine W_top (y := .int 2) (by decide) ?_
  refine va_put (D := D) (ci := 6) (v := .int 2) (ty := .int) (C := RX6) (T := TX6) (N := 8) hx hb htb iX6 tyX6 tyX6_ok nmX6 hown hK.1 hP hD hS 0 rfl rfl 1 (by decide) (htb _ k_158) (fun _ h9 => h9) rfl (by decide +kernel) rfl rfl (Nat.le_of_ble_eq_true rfl) dX6_add_26 (fun H locs hP hD hS => ?_)
  have hP : va_P D vwCl [((a 9), .inr (6, [.ref (a 23), .int 2, .ref (a 24), .ref q3, .int 0, .int 0, .int 0, .int 0])), ((a 23), .inl (E 0, 120, .inl (upd f (1 : Int32).toNatClampNeg p0)))] H := hP
  have hD : va_D A [((a 9), .inr (6, [.ref (a 23), .int 2, .ref (a 24), .ref q3, .int 0, .int 0, .int 0, .int 0])), ((a 23), .inl (E 0, 120, .inl (upd f (1 : Int32).toNatClampNeg p0)))] := hD
  have hP9 := hP.sub (ws' := [((a 9), .inr (6, [.ref (a 23), .int 2, .ref (a 24), .ref q3, .int 0, .int 0, .int 0, .int 0])), ((a 23), .inl (E 0, 120, .inl (upd f (1 : Int32).toNatClampNeg p0)))]) [0, 1] rfl
  have hD9 := hD.sub (ws' := [((a 9), .inr (6, [.ref (a 23), .int 2, .ref (a 24), .ref q3, .int 0, .int 0, .int 0, .int 0])), ((a 23), .inl (E 0, 120, .inl (upd f (1 : Int32).toNatClampNeg p0)))]) [0, 1] (by decide) rfl
  exact W.vret hx hb hr (fun t ht hW => ⟨⟨(upd f (1 : Int32).toNatClampNeg p0), rfl, trivial, by rw [ht]; exact hP9, hD9⟩, hS.F ht⟩) hS.2.2 dX6_add_29
set_option maxHeartbeats 4000000 in
set_option maxRecDepth 100000 in
theorem c_X6_add2 (l : Launch) (D : va_G) (E : Nat → Nat) (a : Nat → Nat) (q3 : Nat) (f : Nat → Int32) (p0 : Int32) (sz : Nat)  : Met l yX6_add (wl yX6_add cX6_add 2 none) (RM 0 0 0) (mu_P D E [.ref (a 9), .int p0] [((a 9), .inr (6, [.ref (a 23), .int 2, .ref (a 24), .ref q3, .int 0, .int 0, .int 0, .int 0])), ((a 23), .inl (E 0, 120, .inl f))] sz) (va_Qv (fun (u : Nat → Int32) => True) (mu_B D (va_A [((a 9), .inr (6, [.ref (a 23), .int 2, .ref (a 24), .ref q3, .int 0, .int 0, .int 0, .int 0])), ((a 23), .inl (E 0, 120, .inl f))] sz) (fun (u : Nat → Int32) => [((a 9), .inr (6, [.ref (a 23), .int 3, .ref (a 24), .ref q3, .int 0, .int 0, .int 0, .int 0])), ((a 23), .inl (E 0, 120, .inl u))])) (va_A [((a 9), .inr (6, [.ref (a 23), .int 2, .ref (a 24), .ref q3, .int 0, .int 0, .int 0, .int 0])), ((a 23), .inl (E 0, 120, .inl f))] sz)) 0 0 (va_A [((a 9), .inr (6, [.ref (a 23), .int 2, .ref (a 24), .ref q3, .int 0, .int 0, .int 0, .int 0])), ((a 23), .inl (E 0, 120, .inl f))] sz) := by
  refine Met.ofW (cc := cX6_add) (maxL := 2) (ret := none) (by decide) rfl ?_
  intro p e s m args below meth c s₁ B hml hv
  obtain ⟨rfl, hsz, hP, hK, hD0⟩ := hv
  have hx := B.exec
  have hb := B.bytes
  have hr := B.returns
  have hts := atoms_spec (ws := wl yX6_add cX6_add 2 none) B.pre
  have htb : ∀ w ∈ tb, w.before _ s = true := fun w h => hts w (List.mem_cons_of_mem _ h)
  have hown : s.vm.findClass RX6 = some m.cls := findClass_of_methodNamed B.named
  have hlocks := B.notSynchronized
  subst hsz
  have hD := hD0.self (sz := s.heap.size)
  generalize hAe : va_A [((a 9), .inr (6, [.ref (a 23), .int 2, .ref (a 24), .ref q3, .int 0, .int 0, .int 0, .int 0])), ((a 23), .inl (E 0, 120, .inl f))] s.heap.size = A at hD ⊢
  have hA : ∀ q : Nat, s.heap.size ≤ q → A q := fun q h => by rw [← hAe]; exact Or.inr h
  have hS : va_S A s.heap s.heap [] := va_S.rf
  have hP : va_P D vwCl [((a 9), .inr (6, [.ref (a 23), .int 2, .ref (a 24), .ref q3, .int 0, .int 0, .int 0, .int 0])), ((a 23), .inl (E 0, 120, .inl f))] s.heap := hP
  have hl := lv_entry ([.ref (a 9), .int p0]) (n := 2) (Nat.le_of_ble_eq_true rfl)
  rw [lg_entry_eq]
  generalize (lg_sl ([.ref (a 9), .int p0]) ++ List.replicate (2 - (lg_sl ([.ref (a 9), .int p0])).length) Slot.unset).toArray = ls at hl ⊢
  have hl : lv_has ls 2 [(0, .ref (a 9)), (1, .int p0)] := hl
  have lo_p0 := i_lo p0
  have hi_p0 := i_hi p0
  refine lv_aload_n hx hb dX6_add_0 rfl (lv_at hl 0 rfl) ?_
  refine va_get (D := D) (ci := 6) (v := .int 2) (C := RX6) (T := TX6) (N := 8) hx hb htb iX6 hown hK.1 hP 0 rfl rfl 1 (by decide) (htb _ k_158) (fun _ h9 => h9) rfl dX6_add_1 ?_
  refine lv_bipush (v := 120) hx hb dX6_add_4 (by decide) ?_
  refine lv_icmp_ge (tgt := 29) hx hb dX6_add_6 (by decide) (fun c_1 => absurd c_1 (by decide)) (fun c_1 => ?_)
  refine lv_aload_n hx hb dX6_add_9 rfl (lv_at hl 0 rfl) ?_
  refine va_get (D := D) (ci := 6) (v := .ref (a 23)) (C := RX6) (T := TX6) (N := 8) hx hb htb iX6 hown hK.1 hP 0 rfl rfl 0 (by decide) (htb _ k_157) (fun _ h9 => h9) rfl dX6_add_10 ?_
  refine lv_aload_n hx hb dX6_add_13 rfl (lv_at hl 0 rfl) ?_
  refine va_get (D := D) (ci := 6) (v := .int 2) (C := RX6) (T := TX6) (N := 8) hx hb htb iX6 hown hK.1 hP 0 rfl rfl 1 (by decide) (htb _ k_158) (fun _ h9 => h9) rfl dX6_add_14 ?_
  refine lv_iload_n hx hb dX6_add_17 rfl (lv_at hl 1 rfl) ?_
  refine va_iast hx hb hK.1 hP hD hS 1 0 rfl rfl (g_in t_2 (by decide) (by decide)) dX6_add_18 (fun H locs hP hD hS => ?_)
  have hP : va_P D vwCl [((a 9), .inr (6, [.ref (a 23), .int 2, .ref (a 24), .ref q3, .int 0, .int 0, .int 0, .int 0])), ((a 23), .inl (E 0, 120, .inl (upd f (2 : Int32).toNatClampNeg p0)))] H := hP
  have hD : va_D A [((a 9), .inr (6, [.ref (a 23), .int 2, .ref (a 24), .ref q3, .int 0, .int 0, .int 0, .int 0])), ((a 23), .inl (E 0, 120, .inl (upd f (2 : Int32).toNatClampNeg p0)))] := hD
  refine lv_aload_n hx hb dX6_add_19 rfl (lv_at hl 0 rfl) ?_
  refine lv_dup hx hb dX6_add_20 rfl ?_
  refine va_get (D := D) (ci := 6) (v := .int 2) (C := RX6) (T := TX6) (N := 8) hx hb htb iX6 hown hK.1 hP 0 rfl rfl 1 (by decide) (htb _ k_158) (fun _ h9 => h9) rfl dX6_add_21 ?_
  refine lv_iconst (v := 1) hx hb dX6_add_24 (by decide) ?_
  refine lv_iadd hx hb dX6_add_25 ?_
  refine W_top (y := .int 3) (by decide) ?_
  refine va_put (D := D) (ci := 6) (v := .int 3) (ty := .int) (C := RX6) (T := TX6) (N := 8) hx hb htb iX6 tyX6 tyX6_ok nmX6 hown hK.1 hP hD hS 0 rfl rfl 1 (by decide) (htb _ k_158) (fun _ h9 => h9) rfl (by decide +kernel) rfl rfl (Nat.le_of_ble_eq_true rfl) dX6_add_26 (fun H locs hP hD hS => ?_)
  have hP : va_P D vwCl [((a 9), .inr (6, [.ref (a 23), .int 3, .ref (a 24), .ref q3, .int 0, .int 0, .int 0, .int 0])), ((a 23), .inl (E 0, 120, .inl (upd f (2 : Int32).toNatClampNeg p0)))] H := hP
  have hD : va_D A [((a 9), .inr (6, [.ref (a 23), .int 3, .ref (a 24), .ref q3, .int 0, .int 0, .int 0, .int 0])), ((a 23), .inl (E 0, 120, .inl (upd f (2 : Int32).toNatClampNeg p0)))] := hD
  have hP9 := hP.sub (ws' := [((a 9), .inr (6, [.ref (a 23), .int 3, .ref (a 24), .ref q3, .int 0, .int 0, .int 0, .int 0])), ((a 23), .inl (E 0, 120, .inl (upd f (2 : Int32).toNatClampNeg p0)))]) [0, 1] rfl
  have hD9 := hD.sub (ws' := [((a 9), .inr (6, [.ref (a 23), .int 3, .ref (a 24), .ref q3, .int 0, .int 0, .int 0, .int 0])), ((a 23), .inl (E 0, 120, .inl (upd f (2 : Int32).toNatClampNeg p0)))]) [0, 1] (by decide) rfl
  exact W.vret hx hb hr (fun t ht hW => ⟨⟨(upd f (2 : Int32).toNatClampNeg p0), rfl, trivial, by rw [ht]; exact hP9, hD9⟩, hS.F ht⟩) hS.2.2 dX6_add_29
set_option maxHeartbeats 4000000 in
set_option maxRecDepth 100000 in
theorem c_X6_add3 (l : Launch) (D : va_G) (E : Nat → Nat) (a : Nat → Nat) (q3 : Nat) (f : Nat → Int32) (p0 : Int32) (sz : Nat)  : Met l yX6_add (wl yX6_add cX6_add 2 none) (RM 0 0 0) (mu_P D E [.ref (a 9), .int p0] [((a 9), .inr (6, [.ref (a 23), .int 3, .ref (a 24), .ref q3, .int 0, .int 0, .int 0, .int 0])), ((a 23), .inl (E 0, 120, .inl f))] sz) (va_Qv (fun (u : Nat → Int32) => True) (mu_B D (va_A [((a 9), .inr (6, [.ref (a 23), .int 3, .ref (a 24), .ref q3, .int 0, .int 0, .int 0, .int 0])), ((a 23), .inl (E 0, 120, .inl f))] sz) (fun (u : Nat → Int32) => [((a 9), .inr (6, [.ref (a 23), .int 4, .ref (a 24), .ref q3, .int 0, .int 0, .int 0, .int 0])), ((a 23), .inl (E 0, 120, .inl u))])) (va_A [((a 9), .inr (6, [.ref (a 23), .int 3, .ref (a 24), .ref q3, .int 0, .int 0, .int 0, .int 0])), ((a 23), .inl (E 0, 120, .inl f))] sz)) 0 0 (va_A [((a 9), .inr (6, [.ref (a 23), .int 3, .ref (a 24), .ref q3, .int 0, .int 0, .int 0, .int 0])), ((a 23), .inl (E 0, 120, .inl f))] sz) := by
  refine Met.ofW (cc := cX6_add) (maxL := 2) (ret := none) (by decide) rfl ?_
  intro p e s m args below meth c s₁ B hml hv
  obtain ⟨rfl, hsz, hP, hK, hD0⟩ := hv
  have hx := B.exec
  have hb := B.bytes
  have hr := B.returns
  have hts := atoms_spec (ws := wl yX6_add cX6_add 2 none) B.pre
  have htb : ∀ w ∈ tb, w.before _ s = true := fun w h => hts w (List.mem_cons_of_mem _ h)
  have hown : s.vm.findClass RX6 = some m.cls := findClass_of_methodNamed B.named
  have hlocks := B.notSynchronized
  subst hsz
  have hD := hD0.self (sz := s.heap.size)
  generalize hAe : va_A [((a 9), .inr (6, [.ref (a 23), .int 3, .ref (a 24), .ref q3, .int 0, .int 0, .int 0, .int 0])), ((a 23), .inl (E 0, 120, .inl f))] s.heap.size = A at hD ⊢
  have hA : ∀ q : Nat, s.heap.size ≤ q → A q := fun q h => by rw [← hAe]; exact Or.inr h
  have hS : va_S A s.heap s.heap [] := va_S.rf
  have hP : va_P D vwCl [((a 9), .inr (6, [.ref (a 23), .int 3, .ref (a 24), .ref q3, .int 0, .int 0, .int 0, .int 0])), ((a 23), .inl (E 0, 120, .inl f))] s.heap := hP
  have hl := lv_entry ([.ref (a 9), .int p0]) (n := 2) (Nat.le_of_ble_eq_true rfl)
  rw [lg_entry_eq]
  generalize (lg_sl ([.ref (a 9), .int p0]) ++ List.replicate (2 - (lg_sl ([.ref (a 9), .int p0])).length) Slot.unset).toArray = ls at hl ⊢
  have hl : lv_has ls 2 [(0, .ref (a 9)), (1, .int p0)] := hl
  have lo_p0 := i_lo p0
  have hi_p0 := i_hi p0
  refine lv_aload_n hx hb dX6_add_0 rfl (lv_at hl 0 rfl) ?_
  refine va_get (D := D) (ci := 6) (v := .int 3) (C := RX6) (T := TX6) (N := 8) hx hb htb iX6 hown hK.1 hP 0 rfl rfl 1 (by decide) (htb _ k_158) (fun _ h9 => h9) rfl dX6_add_1 ?_
  refine lv_bipush (v := 120) hx hb dX6_add_4 (by decide) ?_
  refine lv_icmp_ge (tgt := 29) hx hb dX6_add_6 (by decide) (fun c_1 => absurd c_1 (by decide)) (fun c_1 => ?_)
  refine lv_aload_n hx hb dX6_add_9 rfl (lv_at hl 0 rfl) ?_
  refine va_get (D := D) (ci := 6) (v := .ref (a 23)) (C := RX6) (T := TX6) (N := 8) hx hb htb iX6 hown hK.1 hP 0 rfl rfl 0 (by decide) (htb _ k_157) (fun _ h9 => h9) rfl dX6_add_10 ?_
  refine lv_aload_n hx hb dX6_add_13 rfl (lv_at hl 0 rfl) ?_
  refine va_get (D := D) (ci := 6) (v := .int 3) (C := RX6) (T := TX6) (N := 8) hx hb htb iX6 hown hK.1 hP 0 rfl rfl 1 (by decide) (htb _ k_158) (fun _ h9 => h9) rfl dX6_add_14 ?_
  refine lv_iload_n hx hb dX6_add_17 rfl (lv_at hl 1 rfl) ?_
  refine va_iast hx hb hK.1 hP hD hS 1 0 rfl rfl (g_in t_3 (by decide) (by decide)) dX6_add_18 (fun H locs hP hD hS => ?_)
  have hP : va_P D vwCl [((a 9), .inr (6, [.ref (a 23), .int 3, .ref (a 24), .ref q3, .int 0, .int 0, .int 0, .int 0])), ((a 23), .inl (E 0, 120, .inl (upd f (3 : Int32).toNatClampNeg p0)))] H := hP
  have hD : va_D A [((a 9), .inr (6, [.ref (a 23), .int 3, .ref (a 24), .ref q3, .int 0, .int 0, .int 0, .int 0])), ((a 23), .inl (E 0, 120, .inl (upd f (3 : Int32).toNatClampNeg p0)))] := hD
  refine lv_aload_n hx hb dX6_add_19 rfl (lv_at hl 0 rfl) ?_
  refine lv_dup hx hb dX6_add_20 rfl ?_
  refine va_get (D := D) (ci := 6) (v := .int 3) (C := RX6) (T := TX6) (N := 8) hx hb htb iX6 hown hK.1 hP 0 rfl rfl 1 (by decide) (htb _ k_158) (fun _ h9 => h9) rfl dX6_add_21 ?_
  refine lv_iconst (v := 1) hx hb dX6_add_24 (by decide) ?_
  refine lv_iadd hx hb dX6_add_25 ?_
  refine W_top (y := .int 4) (by decide) ?_
  refine va_put (D := D) (ci := 6) (v := .int 4) (ty := .int) (C := RX6) (T := TX6) (N := 8) hx hb htb iX6 tyX6 tyX6_ok nmX6 hown hK.1 hP hD hS 0 rfl rfl 1 (by decide) (htb _ k_158) (fun _ h9 => h9) rfl (by decide +kernel) rfl rfl (Nat.le_of_ble_eq_true rfl) dX6_add_26 (fun H locs hP hD hS => ?_)
  have hP : va_P D vwCl [((a 9), .inr (6, [.ref (a 23), .int 4, .ref (a 24), .ref q3, .int 0, .int 0, .int 0, .int 0])), ((a 23), .inl (E 0, 120, .inl (upd f (3 : Int32).toNatClampNeg p0)))] H := hP
  have hD : va_D A [((a 9), .inr (6, [.ref (a 23), .int 4, .ref (a 24), .ref q3, .int 0, .int 0, .int 0, .int 0])), ((a 23), .inl (E 0, 120, .inl (upd f (3 : Int32).toNatClampNeg p0)))] := hD
  have hP9 := hP.sub (ws' := [((a 9), .inr (6, [.ref (a 23), .int 4, .ref (a 24), .ref q3, .int 0, .int 0, .int 0, .int 0])), ((a 23), .inl (E 0, 120, .inl (upd f (3 : Int32).toNatClampNeg p0)))]) [0, 1] rfl
  have hD9 := hD.sub (ws' := [((a 9), .inr (6, [.ref (a 23), .int 4, .ref (a 24), .ref q3, .int 0, .int 0, .int 0, .int 0])), ((a 23), .inl (E 0, 120, .inl (upd f (3 : Int32).toNatClampNeg p0)))]) [0, 1] (by decide) rfl
  exact W.vret hx hb hr (fun t ht hW => ⟨⟨(upd f (3 : Int32).toNatClampNeg p0), rfl, trivial, by rw [ht]; exact hP9, hD9⟩, hS.F ht⟩) hS.2.2 dX6_add_29
set_option maxHeartbeats 4000000 in
set_option maxRecDepth 100000 in
theorem c_X0_add (l : Launch) (D : va_G) (E : Nat → Nat) (a : Nat → Nat) (p0 : Int32) (sz : Nat)  : Met l yX0_add (wl yX0_add cX0_add 2 none) (RM 0 0 0) (mu_P D E [.ref (a 10), .int p0] [((a 10), .inr (0, [.ref (a 28), .ref (a 29), .ref (a 30), .ref (a 31), .ref (a 32), .int 0, .int 0, .int 0, .int 0])), ((a 28), .inl (E 0, 9, .inl (fun _ => 0)))] sz) (va_Qv (fun (u : Unit) => True) (mu_B D (va_A [((a 10), .inr (0, [.ref (a 28), .ref (a 29), .ref (a 30), .ref (a 31), .ref (a 32), .int 0, .int 0, .int 0, .int 0])), ((a 28), .inl (E 0, 9, .inl (fun _ => 0)))] sz) (fun (u : Unit) => [((a 10), .inr (0, [.ref (a 28), .ref (a 29), .ref (a 30), .ref (a 31), .ref (a 32), .int 1, .int 0, .int 0, .int 0]))])) (va_A [((a 10), .inr (0, [.ref (a 28), .ref (a 29), .ref (a 30), .ref (a 31), .ref (a 32), .int 0, .int 0, .int 0, .int 0])), ((a 28), .inl (E 0, 9, .inl (fun _ => 0)))] sz)) 0 0 (va_A [((a 10), .inr (0, [.ref (a 28), .ref (a 29), .ref (a 30), .ref (a 31), .ref (a 32), .int 0, .int 0, .int 0, .int 0])), ((a 28), .inl (E 0, 9, .inl (fun _ => 0)))] sz) := by
  refine Met.ofW (cc := cX0_add) (maxL := 2) (ret := none) (by decide) rfl ?_
  intro p e s m args below meth c s₁ B hml hv
  obtain ⟨rfl, hsz, hP, hK, hD0⟩ := hv
  have hx := B.exec
  have hb := B.bytes
  have hr := B.returns
  have hts := atoms_spec (ws := wl yX0_add cX0_add 2 none) B.pre
  have htb : ∀ w ∈ tb, w.before _ s = true := fun w h => hts w (List.mem_cons_of_mem _ h)
  have hown : s.vm.findClass RX0 = some m.cls := findClass_of_methodNamed B.named
  have hlocks := B.notSynchronized
  subst hsz
  have hD := hD0.self (sz := s.heap.size)
  generalize hAe : va_A [((a 10), .inr (0, [.ref (a 28), .ref (a 29), .ref (a 30), .ref (a 31), .ref (a 32), .int 0, .int 0, .int 0, .int 0])), ((a 28), .inl (E 0, 9, .inl (fun _ => 0)))] s.heap.size = A at hD ⊢
  have hA : ∀ q : Nat, s.heap.size ≤ q → A q := fun q h => by rw [← hAe]; exact Or.inr h
  have hS : va_S A s.heap s.heap [] := va_S.rf
  have hP : va_P D vwCl [((a 10), .inr (0, [.ref (a 28), .ref (a 29), .ref (a 30), .ref (a 31), .ref (a 32), .int 0, .int 0, .int 0, .int 0])), ((a 28), .inl (E 0, 9, .inl (fun _ => 0)))] s.heap := hP
  have hl := lv_entry ([.ref (a 10), .int p0]) (n := 2) (Nat.le_of_ble_eq_true rfl)
  rw [lg_entry_eq]
  generalize (lg_sl ([.ref (a 10), .int p0]) ++ List.replicate (2 - (lg_sl ([.ref (a 10), .int p0])).length) Slot.unset).toArray = ls at hl ⊢
  have hl : lv_has ls 2 [(0, .ref (a 10)), (1, .int p0)] := hl
  have lo_p0 := i_lo p0
  have hi_p0 := i_hi p0
  refine lv_aload_n hx hb dX0_add_0 rfl (lv_at hl 0 rfl) ?_
  refine va_get (D := D) (ci := 0) (v := .int 0) (C := RX0) (T := TX0) (N := 9) hx hb htb iX0 hown hK.1 hP 0 rfl rfl 5 (by decide) (htb _ k_196) (fun _ h9 => h9) rfl dX0_add_1 ?_
  refine lv_bipush (v := 9) hx hb dX0_add_4 (by decide) ?_
  refine lv_icmp_ge (tgt := 29) hx hb dX0_add_6 (by decide) (fun c_1 => absurd c_1 (by decide)) (fun c_1 => ?_)
  refine lv_aload_n hx hb dX0_add_9 rfl (lv_at hl 0 rfl) ?_
  refine va_get (D := D) (ci := 0) (v := .ref (a 28)) (C := RX0) (T := TX0) (N := 9) hx hb htb iX0 hown hK.1 hP 0 rfl rfl 0 (by decide) (htb _ k_190) (fun _ h9 => h9) rfl dX0_add_10 ?_
  refine lv_aload_n hx hb dX0_add_13 rfl (lv_at hl 0 rfl) ?_
  refine va_get (D := D) (ci := 0) (v := .int 0) (C := RX0) (T := TX0) (N := 9) hx hb htb iX0 hown hK.1 hP 0 rfl rfl 5 (by decide) (htb _ k_196) (fun _ h9 => h9) rfl dX0_add_14 ?_
  refine lv_iload_n hx hb dX0_add_17 rfl (lv_at hl 1 rfl) ?_
  refine va_iast hx hb hK.1 hP hD hS 1 0 rfl rfl (g_in t_0 (by decide) (by decide)) dX0_add_18 (fun H locs hP hD hS => ?_)
  have hP : va_P D vwCl [((a 10), .inr (0, [.ref (a 28), .ref (a 29), .ref (a 30), .ref (a 31), .ref (a 32), .int 0, .int 0, .int 0, .int 0])), ((a 28), .inl (E 0, 9, .inl (upd (fun _ => 0) (0 : Int32).toNatClampNeg p0)))] H := hP
  have hD : va_D A [((a 10), .inr (0, [.ref (a 28), .ref (a 29), .ref (a 30), .ref (a 31), .ref (a 32), .int 0, .int 0, .int 0, .int 0])), ((a 28), .inl (E 0, 9, .inl (upd (fun _ => 0) (0 : Int32).toNatClampNeg p0)))] := hD
  refine lv_aload_n hx hb dX0_add_19 rfl (lv_at hl 0 rfl) ?_
  refine lv_dup hx hb dX0_add_20 rfl ?_
  refine va_get (D := D) (ci := 0) (v := .int 0) (C := RX0) (T := TX0) (N := 9) hx hb htb iX0 hown hK.1 hP 0 rfl rfl 5 (by decide) (htb _ k_196) (fun _ h9 => h9) rfl dX0_add_21 ?_
  refine lv_iconst (v := 1) hx hb dX0_add_24 (by decide) ?_
  refine lv_iadd hx hb dX0_add_25 ?_
  refine W_top (y := .int 1) (by decide) ?_
  refine va_put (D := D) (ci := 0) (v := .int 1) (ty := .int) (C := RX0) (T := TX0) (N := 9) hx hb htb iX0 tyX0 tyX0_ok nmX0 hown hK.1 hP hD hS 0 rfl rfl 5 (by decide) (htb _ k_196) (fun _ h9 => h9) rfl (by decide +kernel) rfl rfl (Nat.le_of_ble_eq_true rfl) dX0_add_26 (fun H locs hP hD hS => ?_)
  have hP : va_P D vwCl [((a 10), .inr (0, [.ref (a 28), .ref (a 29), .ref (a 30), .ref (a 31), .ref (a 32), .int 1, .int 0, .int 0, .int 0])), ((a 28), .inl (E 0, 9, .inl (upd (fun _ => 0) (0 : Int32).toNatClampNeg p0)))] H := hP
  have hD : va_D A [((a 10), .inr (0, [.ref (a 28), .ref (a 29), .ref (a 30), .ref (a 31), .ref (a 32), .int 1, .int 0, .int 0, .int 0])), ((a 28), .inl (E 0, 9, .inl (upd (fun _ => 0) (0 : Int32).toNatClampNeg p0)))] := hD
  have hP9 := hP.sub (ws' := [((a 10), .inr (0, [.ref (a 28), .ref (a 29), .ref (a 30), .ref (a 31), .ref (a 32), .int 1, .int 0, .int 0, .int 0]))]) [0] rfl
  have hD9 := hD.sub (ws' := [((a 10), .inr (0, [.ref (a 28), .ref (a 29), .ref (a 30), .ref (a 31), .ref (a 32), .int 1, .int 0, .int 0, .int 0]))]) [0] (by decide) rfl
  exact W.vret hx hb hr (fun t ht hW => ⟨⟨(), rfl, trivial, by rw [ht]; exact hP9, hD9⟩, hS.F ht⟩) hS.2.2 dX0_add_29
set_option maxHeartbeats 4000000 in
set_option maxRecDepth 100000 in
theorem c_X8_off (l : Launch) (D : va_G) (E : Nat → Nat) (h0 : Nat) (a : Nat → Nat) (p0 : Int32) (p1 : Int32) (p2 : Int32) (p3 : Int32) (sz : Nat)  : Met l yX8_off (wl yX8_off cX8_off 5 (some .int)) (RM 1 0 0) (mu_P D E [.ref h0, .int p0, .int p1, .int p2, .int p3] [(h0, .inr (8, xF a 0)), ((a 6), .inr (2, [.ref (a 18), .ref (a 19), .ref (a 20), .ref (a 21), .ref (a 22), .int 0])), ((a 18), .inl (E 0, 60, .inl (fun _ => 0))), ((a 19), .inl (E 0, 60, .inl (fun _ => 0))), ((a 20), .inl (E 0, 60, .inl (fun _ => 0))), ((a 21), .inl (E 0, 60, .inl (fun _ => 0))), ((a 22), .inl (E 0, 60, .inl (fun _ => 0)))] sz) (va_Qi (fun (r : Int32) (u : Unit) => (r = 1 ∧ ((1 ≤ p0.toInt ∧ p0.toInt ≤ 5) ∧ (0 ≤ p1.toInt ∧ p1.toInt ≤ 399) ∧ (0 ≤ p2.toInt ∧ p2.toInt ≤ 399) ∧ p1.toInt ≤ p2.toInt ∧ (-10000 ≤ p3.toInt ∧ p3.toInt ≤ 10000))) ∨ (r = (-1) ∧ ¬ ((1 ≤ p0.toInt ∧ p0.toInt ≤ 5) ∧ (0 ≤ p1.toInt ∧ p1.toInt ≤ 399) ∧ (0 ≤ p2.toInt ∧ p2.toInt ≤ 399) ∧ p1.toInt ≤ p2.toInt ∧ (-10000 ≤ p3.toInt ∧ p3.toInt ≤ 10000)))) (mu_B D (va_A [(h0, .inr (8, xF a 0)), ((a 6), .inr (2, [.ref (a 18), .ref (a 19), .ref (a 20), .ref (a 21), .ref (a 22), .int 0])), ((a 18), .inl (E 0, 60, .inl (fun _ => 0))), ((a 19), .inl (E 0, 60, .inl (fun _ => 0))), ((a 20), .inl (E 0, 60, .inl (fun _ => 0))), ((a 21), .inl (E 0, 60, .inl (fun _ => 0))), ((a 22), .inl (E 0, 60, .inl (fun _ => 0)))] sz) (fun (u : Unit) => ([] : va_W))) (va_A [(h0, .inr (8, xF a 0)), ((a 6), .inr (2, [.ref (a 18), .ref (a 19), .ref (a 20), .ref (a 21), .ref (a 22), .int 0])), ((a 18), .inl (E 0, 60, .inl (fun _ => 0))), ((a 19), .inl (E 0, 60, .inl (fun _ => 0))), ((a 20), .inl (E 0, 60, .inl (fun _ => 0))), ((a 21), .inl (E 0, 60, .inl (fun _ => 0))), ((a 22), .inl (E 0, 60, .inl (fun _ => 0)))] sz)) 0 0 (va_A [(h0, .inr (8, xF a 0)), ((a 6), .inr (2, [.ref (a 18), .ref (a 19), .ref (a 20), .ref (a 21), .ref (a 22), .int 0])), ((a 18), .inl (E 0, 60, .inl (fun _ => 0))), ((a 19), .inl (E 0, 60, .inl (fun _ => 0))), ((a 20), .inl (E 0, 60, .inl (fun _ => 0))), ((a 21), .inl (E 0, 60, .inl (fun _ => 0))), ((a 22), .inl (E 0, 60, .inl (fun _ => 0)))] sz) := by
  refine Met.ofW (cc := cX8_off) (maxL := 5) (ret := (some .int)) (by decide) rfl ?_
  intro p e s m args below meth c s₁ B hml hv
  obtain ⟨rfl, hsz, hP, hK, hD0⟩ := hv
  have hx := B.exec
  have hb := B.bytes
  have hr := B.returns
  have hts := atoms_spec (ws := wl yX8_off cX8_off 5 (some .int)) B.pre
  have htb : ∀ w ∈ tb, w.before _ s = true := fun w h => hts w (List.mem_cons_of_mem _ h)
  have hown : s.vm.findClass RX8 = some m.cls := findClass_of_methodNamed B.named
  have hlocks := B.notSynchronized
  subst hsz
  have hD := hD0.self (sz := s.heap.size)
  generalize hAe : va_A [(h0, .inr (8, xF a 0)), ((a 6), .inr (2, [.ref (a 18), .ref (a 19), .ref (a 20), .ref (a 21), .ref (a 22), .int 0])), ((a 18), .inl (E 0, 60, .inl (fun _ => 0))), ((a 19), .inl (E 0, 60, .inl (fun _ => 0))), ((a 20), .inl (E 0, 60, .inl (fun _ => 0))), ((a 21), .inl (E 0, 60, .inl (fun _ => 0))), ((a 22), .inl (E 0, 60, .inl (fun _ => 0)))] s.heap.size = A at hD ⊢
  have hA : ∀ q : Nat, s.heap.size ≤ q → A q := fun q h => by rw [← hAe]; exact Or.inr h
  have hS : va_S A s.heap s.heap [] := va_S.rf
  have hP : va_P D vwCl [(h0, .inr (8, xF a 0)), ((a 6), .inr (2, [.ref (a 18), .ref (a 19), .ref (a 20), .ref (a 21), .ref (a 22), .int 0])), ((a 18), .inl (E 0, 60, .inl (fun _ => 0))), ((a 19), .inl (E 0, 60, .inl (fun _ => 0))), ((a 20), .inl (E 0, 60, .inl (fun _ => 0))), ((a 21), .inl (E 0, 60, .inl (fun _ => 0))), ((a 22), .inl (E 0, 60, .inl (fun _ => 0)))] s.heap := hP
  have hl := lv_entry ([.ref h0, .int p0, .int p1, .int p2, .int p3]) (n := 5) (Nat.le_of_ble_eq_true rfl)
  rw [lg_entry_eq]
  generalize (lg_sl ([.ref h0, .int p0, .int p1, .int p2, .int p3]) ++ List.replicate (5 - (lg_sl ([.ref h0, .int p0, .int p1, .int p2, .int p3])).length) Slot.unset).toArray = ls at hl ⊢
  have hl : lv_has ls 5 [(0, .ref h0), (1, .int p0), (2, .int p1), (3, .int p2), (4, .int p3)] := hl
  have lo_p0 := i_lo p0
  have hi_p0 := i_hi p0
  have lo_p1 := i_lo p1
  have hi_p1 := i_hi p1
  have lo_p2 := i_lo p2
  have hi_p2 := i_hi p2
  have lo_p3 := i_lo p3
  have hi_p3 := i_hi p3
  refine lv_iload_n hx hb dX8_off_0 rfl (lv_at hl 1 rfl) ?_
  refine lv_iconst (v := 1) hx hb dX8_off_1 (by decide) ?_
  refine lv_icmp_lt (tgt := 41) hx hb dX8_off_2 (by decide) (fun c_1 => ?_) (fun c_1 => ?_)
  ·
    have ic_1 : p0.toInt < 1 := by first | exact (g_lt rfl t_1).mp c_1 | (have h := mt (g_le t_1 rfl).mpr c_1; omega)
    refine lv_iconst (v := (-1)) hx hb dX8_off_41 (by decide) ?_
    have hP9 := hP.sub (ws' := ([] : va_W)) [] rfl
    have hD9 := hD.sub (ws' := ([] : va_W)) [] (by decide) rfl
    exact W.iret (v := (-1)) hx hb hr (fun t ht hW => ⟨⟨(-1), (), rfl, by first | exact Or.inr ⟨rfl, by omega⟩ | (exfalso; omega), by rw [ht]; exact hP9, hD9⟩, hS.F ht⟩) hS.2.2 dX8_off_42
  ·
    have ic_1 : 1 ≤ p0.toInt := by first | exact (g_le t_1 rfl).mp c_1 | (have h := mt (g_lt rfl t_1).mpr c_1; omega)
    refine lv_iload_n hx hb dX8_off_5 rfl (lv_at hl 1 rfl) ?_
    refine lv_bipush (v := 6) hx hb dX8_off_6 (by decide) ?_
    refine lv_icmp_ge (tgt := 41) hx hb dX8_off_8 (by decide) (fun c_2 => ?_) (fun c_2 => ?_)
    ·
      have ic_2 : 6 ≤ p0.toInt := by first | exact (g_le t_6 rfl).mp c_2 | (have h := mt (g_lt rfl t_6).mpr c_2; omega)
      refine lv_iconst (v := (-1)) hx hb dX8_off_41 (by decide) ?_
      have hP9 := hP.sub (ws' := ([] : va_W)) [] rfl
      have hD9 := hD.sub (ws' := ([] : va_W)) [] (by decide) rfl
      exact W.iret (v := (-1)) hx hb hr (fun t ht hW => ⟨⟨(-1), (), rfl, by first | exact Or.inr ⟨rfl, by omega⟩ | (exfalso; omega), by rw [ht]; exact hP9, hD9⟩, hS.F ht⟩) hS.2.2 dX8_off_42
    ·
      have ic_2 : p0.toInt < 6 := by first | exact (g_lt rfl t_6).mp c_2 | (have h := mt (g_le t_6 rfl).mpr c_2; omega)
      refine lv_iload_n hx hb dX8_off_11 rfl (lv_at hl 2 rfl) ?_
      refine callRS (rest := []) (As := [.int p1]) hx hb hml hown htb hK (c_X8_isDay l D E p1 ) ok_X8_isDay k_323 k_324 k_1 k_325 ⟨(Nat.le_of_ble_eq_true rfl), (Nat.le_of_ble_eq_true rfl)⟩ ⟨(Nat.le_of_ble_eq_true rfl), (Nat.le_of_ble_eq_true rfl)⟩ hl.1 (Nat.le_of_ble_eq_true rfl) rfl rfl dX8_off_12 (hP.sub (ws' := ([] : va_W)) [] rfl) (fun r_4 hw_3 => ?_)
      rcases hw_3 with ⟨hr_4, hw_3⟩ | ⟨hr_4, hw_3⟩
      ·
        refine W_top (y := .int 1) (by rw [hr_4]) ?_
        refine lv_if_eq (tgt := 41) hx hb dX8_off_15 (by decide) (fun c_5 => absurd c_5 (by decide)) (fun c_5 => ?_)
        refine lv_iload_n hx hb dX8_off_18 rfl (lv_at hl 3 rfl) ?_
        refine callRS (rest := []) (As := [.int p2]) hx hb hml hown htb hK (c_X8_isDay l D E p2 ) ok_X8_isDay k_323 k_324 k_1 k_325 ⟨(Nat.le_of_ble_eq_true rfl), (Nat.le_of_ble_eq_true rfl)⟩ ⟨(Nat.le_of_ble_eq_true rfl), (Nat.le_of_ble_eq_true rfl)⟩ hl.1 (Nat.le_of_ble_eq_true rfl) rfl rfl dX8_off_19 (hP.sub (ws' := ([] : va_W)) [] rfl) (fun r_7 hw_6 => ?_)
        rcases hw_6 with ⟨hr_7, hw_6⟩ | ⟨hr_7, hw_6⟩
        ·
          refine W_top (y := .int 1) (by rw [hr_7]) ?_
          refine lv_if_eq (tgt := 41) hx hb dX8_off_22 (by decide) (fun c_8 => absurd c_8 (by decide)) (fun c_8 => ?_)
          refine lv_iload_n hx hb dX8_off_25 rfl (lv_at hl 2 rfl) ?_
          refine lv_iload_n hx hb dX8_off_26 rfl (lv_at hl 3 rfl) ?_
          refine lv_icmp_gt (tgt := 41) hx hb dX8_off_27 (by decide) (fun c_9 => ?_) (fun c_9 => ?_)
          ·
            have ic_9 : p2.toInt < p1.toInt := by first | exact (g_lt rfl rfl).mp c_9 | (have h := mt (g_le rfl rfl).mpr c_9; omega)
            refine lv_iconst (v := (-1)) hx hb dX8_off_41 (by decide) ?_
            have hP9 := hP.sub (ws' := ([] : va_W)) [] rfl
            have hD9 := hD.sub (ws' := ([] : va_W)) [] (by decide) rfl
            exact W.iret (v := (-1)) hx hb hr (fun t ht hW => ⟨⟨(-1), (), rfl, by first | exact Or.inr ⟨rfl, by omega⟩ | (exfalso; omega), by rw [ht]; exact hP9, hD9⟩, hS.F ht⟩) hS.2.2 dX8_off_42
          ·
            have ic_9 : p1.toInt ≤ p2.toInt := by first | exact (g_le rfl rfl).mp c_9 | (have h := mt (g_lt rfl rfl).mpr c_9; omega)
            refine lv_iload hx hb dX8_off_30 (lv_at hl 4 rfl) ?_
            refine lv_sipush (v := 10000) hx hb dX8_off_32 (by decide) ?_
            refine callRS (rest := []) (As := [.int p3, .int 10000]) hx hb hml hown htb hK (c_X8_isWithin l D E p3 10000 (by decide)) ok_X8_isWithin k_326 k_327 k_1 k_328 ⟨(Nat.le_of_ble_eq_true rfl), (Nat.le_of_ble_eq_true rfl)⟩ ⟨(Nat.le_of_ble_eq_true rfl), (Nat.le_of_ble_eq_true rfl)⟩ hl.1 (Nat.le_of_ble_eq_true rfl) rfl rfl dX8_off_35 (hP.sub (ws' := ([] : va_W)) [] rfl) (fun r_11 hw_10 => ?_)
            rcases hw_10 with ⟨hr_11, hw_10⟩ | ⟨hr_11, hw_10⟩
            ·
              try simp only [t_10000] at hw_10
              refine W_top (y := .int 1) (by rw [hr_11]) ?_
              refine lv_if_ne (tgt := 43) hx hb dX8_off_38 (by decide) (fun c_12 => ?_) (fun c_12 => absurd c_12 (by decide))
              refine lv_aload_n hx hb dX8_off_43 rfl (lv_at hl 0 rfl) ?_
              refine va_get (D := D) (ci := 8) (v := .ref (a 6)) (C := RX8) (T := TX8) (N := 14) hx hb htb iX8 hown hK.1 hP 0 rfl rfl 6 (by decide) (htb _ k_278) (fun _ h9 => h9) rfl dX8_off_44 ?_
              refine va_getN (D := D) (ci := 2) (v := .int 0) (C := RX2) (T := TX2) (N := 6) hx hb htb iX2 hown hK.1 hP 1 rfl rfl 5 (by decide) (va_Nw.use rfl (hK.2.1 (Cond.fieldLinkNest RX8 142 "SeaWatches$Offs" "size" "I" "SeaWatches") (by decide +kernel))) (fun _ h9 => h9) rfl dX8_off_47 ?_
              refine lv_bipush (v := 60) hx hb dX8_off_50 (by decide) ?_
              refine lv_icmp_lt (tgt := 58) hx hb dX8_off_52 (by decide) (fun c_13 => ?_) (fun c_13 => absurd (by decide) c_13)
              refine lv_aload_n hx hb dX8_off_58 rfl (lv_at hl 0 rfl) ?_
              refine va_get (D := D) (ci := 8) (v := .ref (a 6)) (C := RX8) (T := TX8) (N := 14) hx hb htb iX8 hown hK.1 hP 0 rfl rfl 6 (by decide) (htb _ k_278) (fun _ h9 => h9) rfl dX8_off_59 ?_
              refine lv_iload_n hx hb dX8_off_62 rfl (lv_at hl 1 rfl) ?_
              refine lv_iload_n hx hb dX8_off_63 rfl (lv_at hl 2 rfl) ?_
              refine lv_iload_n hx hb dX8_off_64 rfl (lv_at hl 3 rfl) ?_
              refine lv_iload hx hb dX8_off_65 (lv_at hl 4 rfl) ?_
              refine lv_aload_n hx hb dX8_off_67 rfl (lv_at hl 0 rfl) ?_
              refine va_get (D := D) (ci := 8) (v := .int 0) (C := RX8) (T := TX8) (N := 14) hx hb htb iX8 hown hK.1 hP 0 rfl rfl 13 (by decide) (htb _ k_285) (fun _ h9 => h9) rfl dX8_off_68 ?_
              have hPc := hP.sub (ws' := [((a 6), .inr (2, [.ref (a 18), .ref (a 19), .ref (a 20), .ref (a 21), .ref (a 22), .int 0])), ((a 18), .inl (E 0, 60, .inl (fun _ => 0))), ((a 19), .inl (E 0, 60, .inl (fun _ => 0))), ((a 20), .inl (E 0, 60, .inl (fun _ => 0))), ((a 21), .inl (E 0, 60, .inl (fun _ => 0))), ((a 22), .inl (E 0, 60, .inl (fun _ => 0)))]) [1, 2, 3, 4, 5, 6] rfl
              have hDc := hD.sub (ws' := [((a 6), .inr (2, [.ref (a 18), .ref (a 19), .ref (a 20), .ref (a 21), .ref (a 22), .int 0])), ((a 18), .inl (E 0, 60, .inl (fun _ => 0))), ((a 19), .inl (E 0, 60, .inl (fun _ => 0))), ((a 20), .inl (E 0, 60, .inl (fun _ => 0))), ((a 21), .inl (E 0, 60, .inl (fun _ => 0))), ((a 22), .inl (E 0, 60, .inl (fun _ => 0)))]) [1, 2, 3, 4, 5, 6] (by decide) rfl
              refine aft_v (runMV (rest := []) (As := [.int p0, .int p1, .int p2, .int p3, .int 0]) hx hb hml hown htb hK (c_X2_add l D E a p0 p1 p2 p3 0 _ ) ok_X2_add k_471 k_472 k_473 k_2 k_474 ⟨(Nat.le_of_ble_eq_true rfl), (Nat.le_of_ble_eq_true rfl)⟩ ⟨(Nat.le_of_ble_eq_true rfl), (Nat.le_of_ble_eq_true rfl)⟩ hl.1 (Nat.le_of_ble_eq_true rfl) rfl rfl dX8_off_71 hPc hDc rfl rfl 0 rfl) hP hD hS hA [1, 2, 3, 4, 5, 6] [0] (wr := [(h0, .inr (8, xF a 0))]) rfl rfl (by decide) (by decide) (fun u_14 H locs hw_15 hP hD hS => ?_)
              clear hPc hDc
              have hP : va_P D vwCl [(h0, .inr (8, xF a 0)), ((a 6), .inr (2, [.ref (a 18), .ref (a 19), .ref (a 20), .ref (a 21), .ref (a 22), .int 1]))] H := hP
              have hD : va_D A [(h0, .inr (8, xF a 0)), ((a 6), .inr (2, [.ref (a 18), .ref (a 19), .ref (a 20), .ref (a 21), .ref (a 22), .int 1]))] := hD
              refine lv_aload_n hx hb dX8_off_74 rfl (lv_at hl 0 rfl) ?_
              refine va_get (D := D) (ci := 8) (v := .ref (a 6)) (C := RX8) (T := TX8) (N := 14) hx hb htb iX8 hown hK.1 hP 0 rfl rfl 6 (by decide) (htb _ k_278) (fun _ h9 => h9) rfl dX8_off_75 ?_
              refine va_getN (D := D) (ci := 2) (v := .int 1) (C := RX2) (T := TX2) (N := 6) hx hb htb iX2 hown hK.1 hP 1 rfl rfl 5 (by decide) (va_Nw.use rfl (hK.2.1 (Cond.fieldLinkNest RX8 142 "SeaWatches$Offs" "size" "I" "SeaWatches") (by decide +kernel))) (fun _ h9 => h9) rfl dX8_off_78 ?_
              have hP9 := hP.sub (ws' := ([] : va_W)) [] rfl
              have hD9 := hD.sub (ws' := ([] : va_W)) [] (by decide) rfl
              exact W.iret (v := 1) hx hb hr (fun t ht hW => ⟨⟨1, (), rfl, by first | exact Or.inl ⟨rfl, by omega⟩ | (exfalso; omega), by rw [ht]; exact hP9, hD9⟩, hS.F ht⟩) hS.2.2 dX8_off_81
            ·
              try simp only [t_10000] at hw_10
              refine W_top (y := .int 0) (by rw [hr_11]) ?_
              refine lv_if_ne (tgt := 43) hx hb dX8_off_38 (by decide) (fun c_17 => absurd (by decide) c_17) (fun c_17 => ?_)
              refine lv_iconst (v := (-1)) hx hb dX8_off_41 (by decide) ?_
              have hP9 := hP.sub (ws' := ([] : va_W)) [] rfl
              have hD9 := hD.sub (ws' := ([] : va_W)) [] (by decide) rfl
              exact W.iret (v := (-1)) hx hb hr (fun t ht hW => ⟨⟨(-1), (), rfl, by first | exact Or.inr ⟨rfl, by omega⟩ | (exfalso; omega), by rw [ht]; exact hP9, hD9⟩, hS.F ht⟩) hS.2.2 dX8_off_42
        ·
          refine W_top (y := .int 0) (by rw [hr_7]) ?_
          refine lv_if_eq (tgt := 41) hx hb dX8_off_22 (by decide) (fun c_18 => ?_) (fun c_18 => absurd (by decide) c_18)
          refine lv_iconst (v := (-1)) hx hb dX8_off_41 (by decide) ?_
          have hP9 := hP.sub (ws' := ([] : va_W)) [] rfl
          have hD9 := hD.sub (ws' := ([] : va_W)) [] (by decide) rfl
          exact W.iret (v := (-1)) hx hb hr (fun t ht hW => ⟨⟨(-1), (), rfl, by first | exact Or.inr ⟨rfl, by omega⟩ | (exfalso; omega), by rw [ht]; exact hP9, hD9⟩, hS.F ht⟩) hS.2.2 dX8_off_42
      ·
        refine W_top (y := .int 0) (by rw [hr_4]) ?_
        refine lv_if_eq (tgt := 41) hx hb dX8_off_15 (by decide) (fun c_19 => ?_) (fun c_19 => absurd (by decide) c_19)
        refine lv_iconst (v := (-1)) hx hb dX8_off_41 (by decide) ?_
        have hP9 := hP.sub (ws' := ([] : va_W)) [] rfl
        have hD9 := hD.sub (ws' := ([] : va_W)) [] (by decide) rfl
        exact W.iret (v := (-1)) hx hb hr (fun t ht hW => ⟨⟨(-1), (), rfl, by first | exact Or.inr ⟨rfl, by omega⟩ | (exfalso; omega), by rw [ht]; exact hP9, hD9⟩, hS.F ht⟩) hS.2.2 dX8_off_42
set_option maxHeartbeats 4000000 in
set_option maxRecDepth 100000 in
theorem c_X8_feed (l : Launch) (D : va_G) (E : Nat → Nat) (h0 : Nat) (a : Nat → Nat) (p0 : Int32) (p1 : Int32) (sz : Nat)  : Met l yX8_feed (wl yX8_feed cX8_feed 4 (some .int)) (RM 1 0 0) (mu_P D E [.ref h0, .int p0, .int p1] [(h0, .inr (8, xF a 0)), ((a 9), .inr (6, [.ref (a 23), .int 0, .ref (a 24), .ref (E 5), .int 0, .int 0, .int 0, .int 0])), ((a 23), .inl (E 0, 120, .inl (fun _ => 0)))] sz) (va_Qi (fun (r : Int32) (u : Unit) => (r = p0 ∧ (1 ≤ p0.toInt ∧ p0.toInt ≤ 4)) ∨ (r = (-1) ∧ ¬ (1 ≤ p0.toInt ∧ p0.toInt ≤ 4))) (mu_B D (va_A [(h0, .inr (8, xF a 0)), ((a 9), .inr (6, [.ref (a 23), .int 0, .ref (a 24), .ref (E 5), .int 0, .int 0, .int 0, .int 0])), ((a 23), .inl (E 0, 120, .inl (fun _ => 0)))] sz) (fun (u : Unit) => ([] : va_W))) (va_A [(h0, .inr (8, xF a 0)), ((a 9), .inr (6, [.ref (a 23), .int 0, .ref (a 24), .ref (E 5), .int 0, .int 0, .int 0, .int 0])), ((a 23), .inl (E 0, 120, .inl (fun _ => 0)))] sz)) 0 0 (va_A [(h0, .inr (8, xF a 0)), ((a 9), .inr (6, [.ref (a 23), .int 0, .ref (a 24), .ref (E 5), .int 0, .int 0, .int 0, .int 0])), ((a 23), .inl (E 0, 120, .inl (fun _ => 0)))] sz) := by
  refine Met.ofW (cc := cX8_feed) (maxL := 4) (ret := (some .int)) (by decide) rfl ?_
  intro p e s m args below meth c s₁ B hml hv
  obtain ⟨rfl, hsz, hP, hK, hD0⟩ := hv
  have hx := B.exec
  have hb := B.bytes
  have hr := B.returns
  have hts := atoms_spec (ws := wl yX8_feed cX8_feed 4 (some .int)) B.pre
  have htb : ∀ w ∈ tb, w.before _ s = true := fun w h => hts w (List.mem_cons_of_mem _ h)
  have hown : s.vm.findClass RX8 = some m.cls := findClass_of_methodNamed B.named
  have hlocks := B.notSynchronized
  subst hsz
  have hD := hD0.self (sz := s.heap.size)
  generalize hAe : va_A [(h0, .inr (8, xF a 0)), ((a 9), .inr (6, [.ref (a 23), .int 0, .ref (a 24), .ref (E 5), .int 0, .int 0, .int 0, .int 0])), ((a 23), .inl (E 0, 120, .inl (fun _ => 0)))] s.heap.size = A at hD ⊢
  have hA : ∀ q : Nat, s.heap.size ≤ q → A q := fun q h => by rw [← hAe]; exact Or.inr h
  have hS : va_S A s.heap s.heap [] := va_S.rf
  have hP : va_P D vwCl [(h0, .inr (8, xF a 0)), ((a 9), .inr (6, [.ref (a 23), .int 0, .ref (a 24), .ref (E 5), .int 0, .int 0, .int 0, .int 0])), ((a 23), .inl (E 0, 120, .inl (fun _ => 0)))] s.heap := hP
  have hl := lv_entry ([.ref h0, .int p0, .int p1]) (n := 4) (Nat.le_of_ble_eq_true rfl)
  rw [lg_entry_eq]
  generalize (lg_sl ([.ref h0, .int p0, .int p1]) ++ List.replicate (4 - (lg_sl ([.ref h0, .int p0, .int p1])).length) Slot.unset).toArray = ls at hl ⊢
  have hl : lv_has ls 4 [(0, .ref h0), (1, .int p0), (2, .int p1)] := hl
  have lo_p0 := i_lo p0
  have hi_p0 := i_hi p0
  have lo_p1 := i_lo p1
  have hi_p1 := i_hi p1
  refine lv_iload_n hx hb dX8_feed_0 rfl (lv_at hl 1 rfl) ?_
  refine lv_iconst (v := 1) hx hb dX8_feed_1 (by decide) ?_
  refine lv_icmp_lt (tgt := 10) hx hb dX8_feed_2 (by decide) (fun c_1 => ?_) (fun c_1 => ?_)
  ·
    have ic_1 : p0.toInt < 1 := by first | exact (g_lt rfl t_1).mp c_1 | (have h := mt (g_le t_1 rfl).mpr c_1; omega)
    refine lv_iconst (v := (-1)) hx hb dX8_feed_10 (by decide) ?_
    have hP9 := hP.sub (ws' := ([] : va_W)) [] rfl
    have hD9 := hD.sub (ws' := ([] : va_W)) [] (by decide) rfl
    exact W.iret (v := (-1)) hx hb hr (fun t ht hW => ⟨⟨(-1), (), rfl, by first | exact Or.inl ⟨(g_eq t_m1 rfl).mpr (by omega), by omega⟩ | exact Or.inr ⟨rfl, by omega⟩ | (exfalso; omega), by rw [ht]; exact hP9, hD9⟩, hS.F ht⟩) hS.2.2 dX8_feed_11
  ·
    have ic_1 : 1 ≤ p0.toInt := by first | exact (g_le t_1 rfl).mp c_1 | (have h := mt (g_lt rfl t_1).mpr c_1; omega)
    refine lv_iload_n hx hb dX8_feed_5 rfl (lv_at hl 1 rfl) ?_
    refine lv_iconst (v := 4) hx hb dX8_feed_6 (by decide) ?_
    refine lv_icmp_le (tgt := 12) hx hb dX8_feed_7 (by decide) (fun c_2 => ?_) (fun c_2 => ?_)
    ·
      have ic_2 : p0.toInt ≤ 4 := by first | exact (g_le rfl t_4).mp c_2 | (have h := mt (g_lt t_4 rfl).mpr c_2; omega)
      refine lv_aload_n hx hb dX8_feed_12 rfl (lv_at hl 0 rfl) ?_
      refine va_get (D := D) (ci := 8) (v := .ref (a 9)) (C := RX8) (T := TX8) (N := 14) hx hb htb iX8 hown hK.1 hP 0 rfl rfl 9 (by decide) (htb _ k_281) (fun _ h9 => h9) rfl dX8_feed_13 ?_
      refine va_getN (D := D) (ci := 6) (v := .int 0) (C := RX6) (T := TX6) (N := 8) hx hb htb iX6 hown hK.1 hP 1 rfl rfl 1 (by decide) (va_Nw.use rfl (hK.2.1 (Cond.fieldLinkNest RX8 179 "SeaWatches$Tape" "size" "I" "SeaWatches") (by decide +kernel))) (fun _ h9 => h9) rfl dX8_feed_16 ?_
      refine lv_iload_n hx hb dX8_feed_19 rfl (lv_at hl 1 rfl) ?_
      refine lv_iadd hx hb dX8_feed_20 ?_
      refine W_top (y := .int p0) (congrArg Value.int (Int32.zero_add _)) ?_
      refine lv_bipush (v := 120) hx hb dX8_feed_21 (by decide) ?_
      refine lv_icmp_le (tgt := 29) hx hb dX8_feed_23 (by decide) (fun c_3 => ?_) (fun c_3 => absurd (by rw [g_le rfl t_120]; omega) c_3)
      refine lv_iconst (v := 0) hx hb dX8_feed_29 (by decide) ?_
      refine lv_istore_n (lv' := [(3, .int 0), (0, .ref h0), (1, .int p0), (2, .int p1)]) hx hb dX8_feed_30 rfl hl (by decide) rfl (fun ls hl => ?_)
      refine lv_iload_n hx hb dX8_feed_31 rfl (lv_at hl 0 rfl) ?_
      refine lv_iload_n hx hb dX8_feed_32 rfl (lv_at hl 2 rfl) ?_
      refine lv_icmp_ge (tgt := 59) hx hb dX8_feed_33 (by decide) (fun c_4 => absurd c_4 (by rw [g_le rfl t_0]; omega)) (fun c_4 => ?_)
      refine lv_aload_n hx hb dX8_feed_36 rfl (lv_at hl 1 rfl) ?_
      refine va_get (D := D) (ci := 8) (v := .ref (a 9)) (C := RX8) (T := TX8) (N := 14) hx hb htb iX8 hown hK.1 hP 0 rfl rfl 9 (by decide) (htb _ k_281) (fun _ h9 => h9) rfl dX8_feed_37 ?_
      refine lv_iload_n hx hb dX8_feed_40 rfl (lv_at hl 3 rfl) ?_
      refine lv_bipush (v := 8) hx hb dX8_feed_41 (by decide) ?_
      refine lv_iload_n hx hb dX8_feed_43 rfl (lv_at hl 0 rfl) ?_
      refine lv_imul hx hb dX8_feed_44 ?_
      refine W_top (y := .int 0) (by decide) ?_
      refine lv_ishr hx hb dX8_feed_45 ?_
      refine lv_topi (fun z_5 ez_5 => ?_)
      refine lv_sipush (v := 255) hx hb dX8_feed_46 (by decide) ?_
      refine lv_iand hx hb dX8_feed_49 ?_
      refine lv_topi (fun z_6 ez_6 => ?_)
      have hPc := hP.sub (ws' := [((a 9), .inr (6, [.ref (a 23), .int 0, .ref (a 24), .ref (E 5), .int 0, .int 0, .int 0, .int 0])), ((a 23), .inl (E 0, 120, .inl (fun _ => 0)))]) [1, 2] rfl
      have hDc := hD.sub (ws' := [((a 9), .inr (6, [.ref (a 23), .int 0, .ref (a 24), .ref (E 5), .int 0, .int 0, .int 0, .int 0])), ((a 23), .inl (E 0, 120, .inl (fun _ => 0)))]) [1, 2] (by decide) rfl
      refine aft_v (runMV (rest := []) (As := [.int z_6]) hx hb hml hown htb hK (c_X6_add0 l D E a (E 5) (fun _ => 0) z_6 _ ) ok_X6_add k_577 k_578 k_579 k_5 k_580 ⟨(Nat.le_of_ble_eq_true rfl), (Nat.le_of_ble_eq_true rfl)⟩ ⟨(Nat.le_of_ble_eq_true rfl), (Nat.le_of_ble_eq_true rfl)⟩ hl.1 (Nat.le_of_ble_eq_true rfl) rfl rfl dX8_feed_50 hPc hDc rfl rfl 0 rfl) hP hD hS hA [1, 2] [0] (wr := [(h0, .inr (8, xF a 0))]) rfl rfl (by decide) (by decide) (fun u_7 H locs hw_8 hP hD hS => ?_)
      clear hPc hDc
      have hP : va_P D vwCl [(h0, .inr (8, xF a 0)), ((a 9), .inr (6, [.ref (a 23), .int 1, .ref (a 24), .ref (E 5), .int 0, .int 0, .int 0, .int 0])), ((a 23), .inl (E 0, 120, .inl u_7))] H := hP
      have hD : va_D A [(h0, .inr (8, xF a 0)), ((a 9), .inr (6, [.ref (a 23), .int 1, .ref (a 24), .ref (E 5), .int 0, .int 0, .int 0, .int 0])), ((a 23), .inl (E 0, 120, .inl u_7))] := hD
      refine lv_iinc (v := 1) (lv' := [(3, .int 1), (0, .ref h0), (1, .int p0), (2, .int p1)]) hx hb dX8_feed_53 hl (k := 0) rfl (by decide) (by decide) rfl (fun ls hl => ?_)
      refine lv_goto (tgt := 31) hx hb dX8_feed_56 (by decide) ?_
      refine lv_iload_n hx hb dX8_feed_31 rfl (lv_at hl 0 rfl) ?_
      refine lv_iload_n hx hb dX8_feed_32 rfl (lv_at hl 2 rfl) ?_
      refine lv_icmp_ge (tgt := 59) hx hb dX8_feed_33 (by decide) (fun c_10 => ?_) (fun c_10 => ?_)
      ·
        have ic_10 : p0.toInt ≤ 1 := by first | exact (g_le rfl t_1).mp c_10 | (have h := mt (g_lt t_1 rfl).mpr c_10; omega)
        refine lv_aload_n hx hb dX8_feed_59 rfl (lv_at hl 1 rfl) ?_
        refine va_get (D := D) (ci := 8) (v := .ref (a 9)) (C := RX8) (T := TX8) (N := 14) hx hb htb iX8 hown hK.1 hP 0 rfl rfl 9 (by decide) (htb _ k_281) (fun _ h9 => h9) rfl dX8_feed_60 ?_
        refine va_getN (D := D) (ci := 6) (v := .int 1) (C := RX6) (T := TX6) (N := 8) hx hb htb iX6 hown hK.1 hP 1 rfl rfl 1 (by decide) (va_Nw.use rfl (hK.2.1 (Cond.fieldLinkNest RX8 179 "SeaWatches$Tape" "size" "I" "SeaWatches") (by decide +kernel))) (fun _ h9 => h9) rfl dX8_feed_63 ?_
        have hP9 := hP.sub (ws' := ([] : va_W)) [] rfl
        have hD9 := hD.sub (ws' := ([] : va_W)) [] (by decide) rfl
        exact W.iret (v := 1) hx hb hr (fun t ht hW => ⟨⟨1, (), rfl, by first | exact Or.inl ⟨(g_eq t_1 rfl).mpr (by omega), by omega⟩ | (exfalso; omega), by rw [ht]; exact hP9, hD9⟩, hS.F ht⟩) hS.2.2 dX8_feed_66
      ·
        have ic_10 : 1 < p0.toInt := by first | exact (g_lt t_1 rfl).mp c_10 | (have h := mt (g_le rfl t_1).mpr c_10; omega)
        refine lv_aload_n hx hb dX8_feed_36 rfl (lv_at hl 1 rfl) ?_
        refine va_get (D := D) (ci := 8) (v := .ref (a 9)) (C := RX8) (T := TX8) (N := 14) hx hb htb iX8 hown hK.1 hP 0 rfl rfl 9 (by decide) (htb _ k_281) (fun _ h9 => h9) rfl dX8_feed_37 ?_
        refine lv_iload_n hx hb dX8_feed_40 rfl (lv_at hl 3 rfl) ?_
        refine lv_bipush (v := 8) hx hb dX8_feed_41 (by decide) ?_
        refine lv_iload_n hx hb dX8_feed_43 rfl (lv_at hl 0 rfl) ?_
        refine lv_imul hx hb dX8_feed_44 ?_
        refine W_top (y := .int 8) (by decide) ?_
        refine lv_ishr hx hb dX8_feed_45 ?_
        refine lv_topi (fun z_11 ez_11 => ?_)
        refine lv_sipush (v := 255) hx hb dX8_feed_46 (by decide) ?_
        refine lv_iand hx hb dX8_feed_49 ?_
        refine lv_topi (fun z_12 ez_12 => ?_)
        have hPc := hP.sub (ws' := [((a 9), .inr (6, [.ref (a 23), .int 1, .ref (a 24), .ref (E 5), .int 0, .int 0, .int 0, .int 0])), ((a 23), .inl (E 0, 120, .inl u_7))]) [1, 2] rfl
        have hDc := hD.sub (ws' := [((a 9), .inr (6, [.ref (a 23), .int 1, .ref (a 24), .ref (E 5), .int 0, .int 0, .int 0, .int 0])), ((a 23), .inl (E 0, 120, .inl u_7))]) [1, 2] (by decide) rfl
        refine aft_v (runMV (rest := []) (As := [.int z_12]) hx hb hml hown htb hK (c_X6_add1 l D E a (E 5) u_7 z_12 _ ) ok_X6_add k_577 k_578 k_579 k_5 k_580 ⟨(Nat.le_of_ble_eq_true rfl), (Nat.le_of_ble_eq_true rfl)⟩ ⟨(Nat.le_of_ble_eq_true rfl), (Nat.le_of_ble_eq_true rfl)⟩ hl.1 (Nat.le_of_ble_eq_true rfl) rfl rfl dX8_feed_50 hPc hDc rfl rfl 0 rfl) hP hD hS hA [1, 2] [0] (wr := [(h0, .inr (8, xF a 0))]) rfl rfl (by decide) (by decide) (fun u_13 H locs hw_14 hP hD hS => ?_)
        clear hPc hDc
        have hP : va_P D vwCl [(h0, .inr (8, xF a 0)), ((a 9), .inr (6, [.ref (a 23), .int 2, .ref (a 24), .ref (E 5), .int 0, .int 0, .int 0, .int 0])), ((a 23), .inl (E 0, 120, .inl u_13))] H := hP
        have hD : va_D A [(h0, .inr (8, xF a 0)), ((a 9), .inr (6, [.ref (a 23), .int 2, .ref (a 24), .ref (E 5), .int 0, .int 0, .int 0, .int 0])), ((a 23), .inl (E 0, 120, .inl u_13))] := hD
        refine lv_iinc (v := 2) (lv' := [(3, .int 2), (0, .ref h0), (1, .int p0), (2, .int p1)]) hx hb dX8_feed_53 hl (k := 0) rfl (by decide) (by decide) rfl (fun ls hl => ?_)
        refine lv_goto (tgt := 31) hx hb dX8_feed_56 (by decide) ?_
        refine lv_iload_n hx hb dX8_feed_31 rfl (lv_at hl 0 rfl) ?_
        refine lv_iload_n hx hb dX8_feed_32 rfl (lv_at hl 2 rfl) ?_
        refine lv_icmp_ge (tgt := 59) hx hb dX8_feed_33 (by decide) (fun c_16 => ?_) (fun c_16 => ?_)
        ·
          have ic_16 : p0.toInt ≤ 2 := by first | exact (g_le rfl t_2).mp c_16 | (have h := mt (g_lt t_2 rfl).mpr c_16; omega)
          refine lv_aload_n hx hb dX8_feed_59 rfl (lv_at hl 1 rfl) ?_
          refine va_get (D := D) (ci := 8) (v := .ref (a 9)) (C := RX8) (T := TX8) (N := 14) hx hb htb iX8 hown hK.1 hP 0 rfl rfl 9 (by decide) (htb _ k_281) (fun _ h9 => h9) rfl dX8_feed_60 ?_
          refine va_getN (D := D) (ci := 6) (v := .int 2) (C := RX6) (T := TX6) (N := 8) hx hb htb iX6 hown hK.1 hP 1 rfl rfl 1 (by decide) (va_Nw.use rfl (hK.2.1 (Cond.fieldLinkNest RX8 179 "SeaWatches$Tape" "size" "I" "SeaWatches") (by decide +kernel))) (fun _ h9 => h9) rfl dX8_feed_63 ?_
          have hP9 := hP.sub (ws' := ([] : va_W)) [] rfl
          have hD9 := hD.sub (ws' := ([] : va_W)) [] (by decide) rfl
          exact W.iret (v := 2) hx hb hr (fun t ht hW => ⟨⟨2, (), rfl, by first | exact Or.inl ⟨(g_eq t_2 rfl).mpr (by omega), by omega⟩ | (exfalso; omega), by rw [ht]; exact hP9, hD9⟩, hS.F ht⟩) hS.2.2 dX8_feed_66
        ·
          have ic_16 : 2 < p0.toInt := by first | exact (g_lt t_2 rfl).mp c_16 | (have h := mt (g_le rfl t_2).mpr c_16; omega)
          refine lv_aload_n hx hb dX8_feed_36 rfl (lv_at hl 1 rfl) ?_
          refine va_get (D := D) (ci := 8) (v := .ref (a 9)) (C := RX8) (T := TX8) (N := 14) hx hb htb iX8 hown hK.1 hP 0 rfl rfl 9 (by decide) (htb _ k_281) (fun _ h9 => h9) rfl dX8_feed_37 ?_
          refine lv_iload_n hx hb dX8_feed_40 rfl (lv_at hl 3 rfl) ?_
          refine lv_bipush (v := 8) hx hb dX8_feed_41 (by decide) ?_
          refine lv_iload_n hx hb dX8_feed_43 rfl (lv_at hl 0 rfl) ?_
          refine lv_imul hx hb dX8_feed_44 ?_
          refine W_top (y := .int 16) (by decide) ?_
          refine lv_ishr hx hb dX8_feed_45 ?_
          refine lv_topi (fun z_17 ez_17 => ?_)
          refine lv_sipush (v := 255) hx hb dX8_feed_46 (by decide) ?_
          refine lv_iand hx hb dX8_feed_49 ?_
          refine lv_topi (fun z_18 ez_18 => ?_)
          have hPc := hP.sub (ws' := [((a 9), .inr (6, [.ref (a 23), .int 2, .ref (a 24), .ref (E 5), .int 0, .int 0, .int 0, .int 0])), ((a 23), .inl (E 0, 120, .inl u_13))]) [1, 2] rfl
          have hDc := hD.sub (ws' := [((a 9), .inr (6, [.ref (a 23), .int 2, .ref (a 24), .ref (E 5), .int 0, .int 0, .int 0, .int 0])), ((a 23), .inl (E 0, 120, .inl u_13))]) [1, 2] (by decide) rfl
          refine aft_v (runMV (rest := []) (As := [.int z_18]) hx hb hml hown htb hK (c_X6_add2 l D E a (E 5) u_13 z_18 _ ) ok_X6_add k_577 k_578 k_579 k_5 k_580 ⟨(Nat.le_of_ble_eq_true rfl), (Nat.le_of_ble_eq_true rfl)⟩ ⟨(Nat.le_of_ble_eq_true rfl), (Nat.le_of_ble_eq_true rfl)⟩ hl.1 (Nat.le_of_ble_eq_true rfl) rfl rfl dX8_feed_50 hPc hDc rfl rfl 0 rfl) hP hD hS hA [1, 2] [0] (wr := [(h0, .inr (8, xF a 0))]) rfl rfl (by decide) (by decide) (fun u_19 H locs hw_20 hP hD hS => ?_)
          clear hPc hDc
          have hP : va_P D vwCl [(h0, .inr (8, xF a 0)), ((a 9), .inr (6, [.ref (a 23), .int 3, .ref (a 24), .ref (E 5), .int 0, .int 0, .int 0, .int 0])), ((a 23), .inl (E 0, 120, .inl u_19))] H := hP
          have hD : va_D A [(h0, .inr (8, xF a 0)), ((a 9), .inr (6, [.ref (a 23), .int 3, .ref (a 24), .ref (E 5), .int 0, .int 0, .int 0, .int 0])), ((a 23), .inl (E 0, 120, .inl u_19))] := hD
          refine lv_iinc (v := 3) (lv' := [(3, .int 3), (0, .ref h0), (1, .int p0), (2, .int p1)]) hx hb dX8_feed_53 hl (k := 0) rfl (by decide) (by decide) rfl (fun ls hl => ?_)
          refine lv_goto (tgt := 31) hx hb dX8_feed_56 (by decide) ?_
          refine lv_iload_n hx hb dX8_feed_31 rfl (lv_at hl 0 rfl) ?_
          refine lv_iload_n hx hb dX8_feed_32 rfl (lv_at hl 2 rfl) ?_
          refine lv_icmp_ge (tgt := 59) hx hb dX8_feed_33 (by decide) (fun c_22 => ?_) (fun c_22 => ?_)
          ·
            have ic_22 : p0.toInt ≤ 3 := by first | exact (g_le rfl t_3).mp c_22 | (have h := mt (g_lt t_3 rfl).mpr c_22; omega)
            refine lv_aload_n hx hb dX8_feed_59 rfl (lv_at hl 1 rfl) ?_
            refine va_get (D := D) (ci := 8) (v := .ref (a 9)) (C := RX8) (T := TX8) (N := 14) hx hb htb iX8 hown hK.1 hP 0 rfl rfl 9 (by decide) (htb _ k_281) (fun _ h9 => h9) rfl dX8_feed_60 ?_
            refine va_getN (D := D) (ci := 6) (v := .int 3) (C := RX6) (T := TX6) (N := 8) hx hb htb iX6 hown hK.1 hP 1 rfl rfl 1 (by decide) (va_Nw.use rfl (hK.2.1 (Cond.fieldLinkNest RX8 179 "SeaWatches$Tape" "size" "I" "SeaWatches") (by decide +kernel))) (fun _ h9 => h9) rfl dX8_feed_63 ?_
            have hP9 := hP.sub (ws' := ([] : va_W)) [] rfl
            have hD9 := hD.sub (ws' := ([] : va_W)) [] (by decide) rfl
            exact W.iret (v := 3) hx hb hr (fun t ht hW => ⟨⟨3, (), rfl, by first | exact Or.inl ⟨(g_eq t_3 rfl).mpr (by omega), by omega⟩ | (exfalso; omega), by rw [ht]; exact hP9, hD9⟩, hS.F ht⟩) hS.2.2 dX8_feed_66
          ·
            have ic_22 : 3 < p0.toInt := by first | exact (g_lt t_3 rfl).mp c_22 | (have h := mt (g_le rfl t_3).mpr c_22; omega)
            refine lv_aload_n hx hb dX8_feed_36 rfl (lv_at hl 1 rfl) ?_
            refine va_get (D := D) (ci := 8) (v := .ref (a 9)) (C := RX8) (T := TX8) (N := 14) hx hb htb iX8 hown hK.1 hP 0 rfl rfl 9 (by decide) (htb _ k_281) (fun _ h9 => h9) rfl dX8_feed_37 ?_
            refine lv_iload_n hx hb dX8_feed_40 rfl (lv_at hl 3 rfl) ?_
            refine lv_bipush (v := 8) hx hb dX8_feed_41 (by decide) ?_
            refine lv_iload_n hx hb dX8_feed_43 rfl (lv_at hl 0 rfl) ?_
            refine lv_imul hx hb dX8_feed_44 ?_
            refine W_top (y := .int 24) (by decide) ?_
            refine lv_ishr hx hb dX8_feed_45 ?_
            refine lv_topi (fun z_23 ez_23 => ?_)
            refine lv_sipush (v := 255) hx hb dX8_feed_46 (by decide) ?_
            refine lv_iand hx hb dX8_feed_49 ?_
            refine lv_topi (fun z_24 ez_24 => ?_)
            have hPc := hP.sub (ws' := [((a 9), .inr (6, [.ref (a 23), .int 3, .ref (a 24), .ref (E 5), .int 0, .int 0, .int 0, .int 0])), ((a 23), .inl (E 0, 120, .inl u_19))]) [1, 2] rfl
            have hDc := hD.sub (ws' := [((a 9), .inr (6, [.ref (a 23), .int 3, .ref (a 24), .ref (E 5), .int 0, .int 0, .int 0, .int 0])), ((a 23), .inl (E 0, 120, .inl u_19))]) [1, 2] (by decide) rfl
            refine aft_v (runMV (rest := []) (As := [.int z_24]) hx hb hml hown htb hK (c_X6_add3 l D E a (E 5) u_19 z_24 _ ) ok_X6_add k_577 k_578 k_579 k_5 k_580 ⟨(Nat.le_of_ble_eq_true rfl), (Nat.le_of_ble_eq_true rfl)⟩ ⟨(Nat.le_of_ble_eq_true rfl), (Nat.le_of_ble_eq_true rfl)⟩ hl.1 (Nat.le_of_ble_eq_true rfl) rfl rfl dX8_feed_50 hPc hDc rfl rfl 0 rfl) hP hD hS hA [1, 2] [0] (wr := [(h0, .inr (8, xF a 0))]) rfl rfl (by decide) (by decide) (fun u_25 H locs hw_26 hP hD hS => ?_)
            clear hPc hDc
            have hP : va_P D vwCl [(h0, .inr (8, xF a 0)), ((a 9), .inr (6, [.ref (a 23), .int 4, .ref (a 24), .ref (E 5), .int 0, .int 0, .int 0, .int 0])), ((a 23), .inl (E 0, 120, .inl u_25))] H := hP
            have hD : va_D A [(h0, .inr (8, xF a 0)), ((a 9), .inr (6, [.ref (a 23), .int 4, .ref (a 24), .ref (E 5), .int 0, .int 0, .int 0, .int 0])), ((a 23), .inl (E 0, 120, .inl u_25))] := hD
            refine lv_iinc (v := 4) (lv' := [(3, .int 4), (0, .ref h0), (1, .int p0), (2, .int p1)]) hx hb dX8_feed_53 hl (k := 0) rfl (by decide) (by decide) rfl (fun ls hl => ?_)
            refine lv_goto (tgt := 31) hx hb dX8_feed_56 (by decide) ?_
            refine lv_iload_n hx hb dX8_feed_31 rfl (lv_at hl 0 rfl) ?_
            refine lv_iload_n hx hb dX8_feed_32 rfl (lv_at hl 2 rfl) ?_
            refine lv_icmp_ge (tgt := 59) hx hb dX8_feed_33 (by decide) (fun c_28 => ?_) (fun c_28 => absurd (by rw [g_le rfl t_4]; omega) c_28)
            refine lv_aload_n hx hb dX8_feed_59 rfl (lv_at hl 1 rfl) ?_
            refine va_get (D := D) (ci := 8) (v := .ref (a 9)) (C := RX8) (T := TX8) (N := 14) hx hb htb iX8 hown hK.1 hP 0 rfl rfl 9 (by decide) (htb _ k_281) (fun _ h9 => h9) rfl dX8_feed_60 ?_
            refine va_getN (D := D) (ci := 6) (v := .int 4) (C := RX6) (T := TX6) (N := 8) hx hb htb iX6 hown hK.1 hP 1 rfl rfl 1 (by decide) (va_Nw.use rfl (hK.2.1 (Cond.fieldLinkNest RX8 179 "SeaWatches$Tape" "size" "I" "SeaWatches") (by decide +kernel))) (fun _ h9 => h9) rfl dX8_feed_63 ?_
            have hP9 := hP.sub (ws' := ([] : va_W)) [] rfl
            have hD9 := hD.sub (ws' := ([] : va_W)) [] (by decide) rfl
            exact W.iret (v := 4) hx hb hr (fun t ht hW => ⟨⟨4, (), rfl, by first | exact Or.inl ⟨(g_eq t_4 rfl).mpr (by omega), by omega⟩ | (exfalso; omega), by rw [ht]; exact hP9, hD9⟩, hS.F ht⟩) hS.2.2 dX8_feed_66
    ·
      have ic_2 : 4 < p0.toInt := by first | exact (g_lt t_4 rfl).mp c_2 | (have h := mt (g_le rfl t_4).mpr c_2; omega)
      refine lv_iconst (v := (-1)) hx hb dX8_feed_10 (by decide) ?_
      have hP9 := hP.sub (ws' := ([] : va_W)) [] rfl
      have hD9 := hD.sub (ws' := ([] : va_W)) [] (by decide) rfl
      exact W.iret (v := (-1)) hx hb hr (fun t ht hW => ⟨⟨(-1), (), rfl, by first | exact Or.inl ⟨(g_eq t_m1 rfl).mpr (by omega), by omega⟩ | exact Or.inr ⟨rfl, by omega⟩ | (exfalso; omega), by rw [ht]; exact hP9, hD9⟩, hS.F ht⟩) hS.2.2 dX8_feed_11
set_option maxHeartbeats 4000000 in
set_option maxRecDepth 100000 in
theorem c_X8_doubt (l : Launch) (D : va_G) (E : Nat → Nat) (h0 : Nat) (a : Nat → Nat) (p0 : Int32) (sz : Nat)  : Met l yX8_doubt (wl yX8_doubt cX8_doubt 2 (some .int)) (RM 1 0 0) (mu_P D E [.ref h0, .int p0] [(h0, .inr (8, xF a 0)), ((a 10), .inr (0, [.ref (a 28), .ref (a 29), .ref (a 30), .ref (a 31), .ref (a 32), .int 0, .int 0, .int 0, .int 0])), ((a 28), .inl (E 0, 9, .inl (fun _ => 0)))] sz) (va_Qi (fun (r : Int32) (u : Unit) => (r = 1 ∧ (1 ≤ p0.toInt ∧ p0.toInt ≤ 9999)) ∨ (r = (-1) ∧ ¬ (1 ≤ p0.toInt ∧ p0.toInt ≤ 9999))) (mu_B D (va_A [(h0, .inr (8, xF a 0)), ((a 10), .inr (0, [.ref (a 28), .ref (a 29), .ref (a 30), .ref (a 31), .ref (a 32), .int 0, .int 0, .int 0, .int 0])), ((a 28), .inl (E 0, 9, .inl (fun _ => 0)))] sz) (fun (u : Unit) => ([] : va_W))) (va_A [(h0, .inr (8, xF a 0)), ((a 10), .inr (0, [.ref (a 28), .ref (a 29), .ref (a 30), .ref (a 31), .ref (a 32), .int 0, .int 0, .int 0, .int 0])), ((a 28), .inl (E 0, 9, .inl (fun _ => 0)))] sz)) 0 0 (va_A [(h0, .inr (8, xF a 0)), ((a 10), .inr (0, [.ref (a 28), .ref (a 29), .ref (a 30), .ref (a 31), .ref (a 32), .int 0, .int 0, .int 0, .int 0])), ((a 28), .inl (E 0, 9, .inl (fun _ => 0)))] sz) := by
  refine Met.ofW (cc := cX8_doubt) (maxL := 2) (ret := (some .int)) (by decide) rfl ?_
  intro p e s m args below meth c s₁ B hml hv
  obtain ⟨rfl, hsz, hP, hK, hD0⟩ := hv
  have hx := B.exec
  have hb := B.bytes
  have hr := B.returns
  have hts := atoms_spec (ws := wl yX8_doubt cX8_doubt 2 (some .int)) B.pre
  have htb : ∀ w ∈ tb, w.before _ s = true := fun w h => hts w (List.mem_cons_of_mem _ h)
  have hown : s.vm.findClass RX8 = some m.cls := findClass_of_methodNamed B.named
  have hlocks := B.notSynchronized
  subst hsz
  have hD := hD0.self (sz := s.heap.size)
  generalize hAe : va_A [(h0, .inr (8, xF a 0)), ((a 10), .inr (0, [.ref (a 28), .ref (a 29), .ref (a 30), .ref (a 31), .ref (a 32), .int 0, .int 0, .int 0, .int 0])), ((a 28), .inl (E 0, 9, .inl (fun _ => 0)))] s.heap.size = A at hD ⊢
  have hA : ∀ q : Nat, s.heap.size ≤ q → A q := fun q h => by rw [← hAe]; exact Or.inr h
  have hS : va_S A s.heap s.heap [] := va_S.rf
  have hP : va_P D vwCl [(h0, .inr (8, xF a 0)), ((a 10), .inr (0, [.ref (a 28), .ref (a 29), .ref (a 30), .ref (a 31), .ref (a 32), .int 0, .int 0, .int 0, .int 0])), ((a 28), .inl (E 0, 9, .inl (fun _ => 0)))] s.heap := hP
  have hl := lv_entry ([.ref h0, .int p0]) (n := 2) (Nat.le_of_ble_eq_true rfl)
  rw [lg_entry_eq]
  generalize (lg_sl ([.ref h0, .int p0]) ++ List.replicate (2 - (lg_sl ([.ref h0, .int p0])).length) Slot.unset).toArray = ls at hl ⊢
  have hl : lv_has ls 2 [(0, .ref h0), (1, .int p0)] := hl
  have lo_p0 := i_lo p0
  have hi_p0 := i_hi p0
  refine lv_iload_n hx hb dX8_doubt_0 rfl (lv_at hl 1 rfl) ?_
  refine lv_iconst (v := 1) hx hb dX8_doubt_1 (by decide) ?_
  refine lv_icmp_lt (tgt := 12) hx hb dX8_doubt_2 (by decide) (fun c_1 => ?_) (fun c_1 => ?_)
  ·
    have ic_1 : p0.toInt < 1 := by first | exact (g_lt rfl t_1).mp c_1 | (have h := mt (g_le t_1 rfl).mpr c_1; omega)
    refine lv_iconst (v := (-1)) hx hb dX8_doubt_12 (by decide) ?_
    have hP9 := hP.sub (ws' := ([] : va_W)) [] rfl
    have hD9 := hD.sub (ws' := ([] : va_W)) [] (by decide) rfl
    exact W.iret (v := (-1)) hx hb hr (fun t ht hW => ⟨⟨(-1), (), rfl, by first | exact Or.inr ⟨rfl, by omega⟩ | (exfalso; omega), by rw [ht]; exact hP9, hD9⟩, hS.F ht⟩) hS.2.2 dX8_doubt_13
  ·
    have ic_1 : 1 ≤ p0.toInt := by first | exact (g_le t_1 rfl).mp c_1 | (have h := mt (g_lt rfl t_1).mpr c_1; omega)
    refine lv_iload_n hx hb dX8_doubt_5 rfl (lv_at hl 1 rfl) ?_
    refine lv_sipush (v := 9999) hx hb dX8_doubt_6 (by decide) ?_
    refine lv_icmp_le (tgt := 14) hx hb dX8_doubt_9 (by decide) (fun c_2 => ?_) (fun c_2 => ?_)
    ·
      have ic_2 : p0.toInt ≤ 9999 := by first | exact (g_le rfl t_9999).mp c_2 | (have h := mt (g_lt t_9999 rfl).mpr c_2; omega)
      refine lv_aload_n hx hb dX8_doubt_14 rfl (lv_at hl 0 rfl) ?_
      refine va_get (D := D) (ci := 8) (v := .ref (a 10)) (C := RX8) (T := TX8) (N := 14) hx hb htb iX8 hown hK.1 hP 0 rfl rfl 10 (by decide) (htb _ k_282) (fun _ h9 => h9) rfl dX8_doubt_15 ?_
      refine va_getN (D := D) (ci := 0) (v := .int 0) (C := RX0) (T := TX0) (N := 9) hx hb htb iX0 hown hK.1 hP 1 rfl rfl 5 (by decide) (va_Nw.use rfl (hK.2.1 (Cond.fieldLinkNest RX8 275 "SeaWatches$Dealing" "listed" "I" "SeaWatches") (by decide +kernel))) (fun _ h9 => h9) rfl dX8_doubt_18 ?_
      refine lv_bipush (v := 9) hx hb dX8_doubt_21 (by decide) ?_
      refine lv_icmp_lt (tgt := 29) hx hb dX8_doubt_23 (by decide) (fun c_3 => ?_) (fun c_3 => absurd (by decide) c_3)
      refine lv_aload_n hx hb dX8_doubt_29 rfl (lv_at hl 0 rfl) ?_
      refine va_get (D := D) (ci := 8) (v := .ref (a 10)) (C := RX8) (T := TX8) (N := 14) hx hb htb iX8 hown hK.1 hP 0 rfl rfl 10 (by decide) (htb _ k_282) (fun _ h9 => h9) rfl dX8_doubt_30 ?_
      refine lv_iload_n hx hb dX8_doubt_33 rfl (lv_at hl 1 rfl) ?_
      have hPc := hP.sub (ws' := [((a 10), .inr (0, [.ref (a 28), .ref (a 29), .ref (a 30), .ref (a 31), .ref (a 32), .int 0, .int 0, .int 0, .int 0])), ((a 28), .inl (E 0, 9, .inl (fun _ => 0)))]) [1, 2] rfl
      have hDc := hD.sub (ws' := [((a 10), .inr (0, [.ref (a 28), .ref (a 29), .ref (a 30), .ref (a 31), .ref (a 32), .int 0, .int 0, .int 0, .int 0])), ((a 28), .inl (E 0, 9, .inl (fun _ => 0)))]) [1, 2] (by decide) rfl
      refine aft_v (runMV (rest := []) (As := [.int p0]) hx hb hml hown htb hK (c_X0_add l D E a p0 _ ) ok_X0_add k_890 k_891 k_892 k_7 k_893 ⟨(Nat.le_of_ble_eq_true rfl), (Nat.le_of_ble_eq_true rfl)⟩ ⟨(Nat.le_of_ble_eq_true rfl), (Nat.le_of_ble_eq_true rfl)⟩ hl.1 (Nat.le_of_ble_eq_true rfl) rfl rfl dX8_doubt_34 hPc hDc rfl rfl 0 rfl) hP hD hS hA [1, 2] [0] (wr := [(h0, .inr (8, xF a 0))]) rfl rfl (by decide) (by decide) (fun u_4 H locs hw_5 hP hD hS => ?_)
      clear hPc hDc
      have hP : va_P D vwCl [(h0, .inr (8, xF a 0)), ((a 10), .inr (0, [.ref (a 28), .ref (a 29), .ref (a 30), .ref (a 31), .ref (a 32), .int 1, .int 0, .int 0, .int 0]))] H := hP
      have hD : va_D A [(h0, .inr (8, xF a 0)), ((a 10), .inr (0, [.ref (a 28), .ref (a 29), .ref (a 30), .ref (a 31), .ref (a 32), .int 1, .int 0, .int 0, .int 0]))] := hD
      refine lv_aload_n hx hb dX8_doubt_37 rfl (lv_at hl 0 rfl) ?_
      refine va_get (D := D) (ci := 8) (v := .ref (a 10)) (C := RX8) (T := TX8) (N := 14) hx hb htb iX8 hown hK.1 hP 0 rfl rfl 10 (by decide) (htb _ k_282) (fun _ h9 => h9) rfl dX8_doubt_38 ?_
      refine va_getN (D := D) (ci := 0) (v := .int 1) (C := RX0) (T := TX0) (N := 9) hx hb htb iX0 hown hK.1 hP 1 rfl rfl 5 (by decide) (va_Nw.use rfl (hK.2.1 (Cond.fieldLinkNest RX8 275 "SeaWatches$Dealing" "listed" "I" "SeaWatches") (by decide +kernel))) (fun _ h9 => h9) rfl dX8_doubt_41 ?_
      have hP9 := hP.sub (ws' := ([] : va_W)) [] rfl
      have hD9 := hD.sub (ws' := ([] : va_W)) [] (by decide) rfl
      exact W.iret (v := 1) hx hb hr (fun t ht hW => ⟨⟨1, (), rfl, by first | exact Or.inl ⟨rfl, by omega⟩ | (exfalso; omega), by rw [ht]; exact hP9, hD9⟩, hS.F ht⟩) hS.2.2 dX8_doubt_44
    ·
      have ic_2 : 9999 < p0.toInt := by first | exact (g_lt t_9999 rfl).mp c_2 | (have h := mt (g_le rfl t_9999).mpr c_2; omega)
      refine lv_iconst (v := (-1)) hx hb dX8_doubt_12 (by decide) ?_
      have hP9 := hP.sub (ws' := ([] : va_W)) [] rfl
      have hD9 := hD.sub (ws' := ([] : va_W)) [] (by decide) rfl
      exact W.iret (v := (-1)) hx hb hr (fun t ht hW => ⟨⟨(-1), (), rfl, by first | exact Or.inr ⟨rfl, by omega⟩ | (exfalso; omega), by rw [ht]; exact hP9, hD9⟩, hS.F ht⟩) hS.2.2 dX8_doubt_13
end
section
set_option maxHeartbeats 4000000 in
set_option maxRecDepth 100000 in
theorem c_X6_readOperand (l : Launch) (D : va_G) (E : Nat → Nat) (h0 : Nat) (q1 : Nat) (q2 : Nat) (q3 : Nat) (p0 : Int32)  : Met l yX6_readOperand (wl yX6_readOperand cX6_readOperand 4 (some .boolean)) (RM 0 0 0) (rd_P D E [.ref h0, .int p0] [(h0, .inr (6, [.ref q1, .int 0, .ref q2, .ref q3, .int 0, .int 0, .int 0, .int 0]))]) (rd_Q (fun r => (r = 0 ∧ True))) 0 0 (fun _ => False) := by
  refine Met.ofW (cc := cX6_readOperand) (maxL := 4) (ret := (some .boolean)) (by decide) rfl ?_
  intro p e s m args below meth c s₁ B hml hv
  obtain ⟨rfl, hP, hK⟩ := hv
  have hx := B.exec
  have hb := B.bytes
  have hr := B.returns
  have hts := atoms_spec (ws := wl yX6_readOperand cX6_readOperand 4 (some .boolean)) B.pre
  have htb : ∀ w ∈ tb, w.before _ s = true := fun w h => hts w (List.mem_cons_of_mem _ h)
  have hown : s.vm.findClass RX6 = some m.cls := findClass_of_methodNamed B.named
  have hlocks := B.notSynchronized
  have hP : va_P D vwCl [(h0, .inr (6, [.ref q1, .int 0, .ref q2, .ref q3, .int 0, .int 0, .int 0, .int 0]))] s.heap := hP
  have hl := lv_entry ([.ref h0, .int p0]) (n := 4) (Nat.le_of_ble_eq_true rfl)
  rw [lg_entry_eq]
  generalize (lg_sl ([.ref h0, .int p0]) ++ List.replicate (4 - (lg_sl ([.ref h0, .int p0])).length) Slot.unset).toArray = ls at hl ⊢
  have hl : lv_has ls 4 [(0, .ref h0), (1, .int p0)] := hl
  have lo_p0 := i_lo p0
  have hi_p0 := i_hi p0
  refine lv_aload_n hx hb dX6_readOperand_0 rfl (lv_at hl 0 rfl) ?_
  refine va_get (D := D) (ci := 6) (v := .int 0) (C := RX6) (T := TX6) (N := 8) hx hb htb iX6 hown hK.1 hP 0 rfl rfl 5 (by decide) (htb _ k_163) (fun _ h9 => h9) rfl dX6_readOperand_1 ?_
  refine lv_iconst (v := 2) hx hb dX6_readOperand_4 (by decide) ?_
  refine lv_icmp_eq (tgt := 16) hx hb dX6_readOperand_5 (by decide) (fun c_1 => absurd c_1 (by decide)) (fun c_1 => ?_)
  refine lv_aload_n hx hb dX6_readOperand_8 rfl (lv_at hl 0 rfl) ?_
  refine va_get (D := D) (ci := 6) (v := .int 0) (C := RX6) (T := TX6) (N := 8) hx hb htb iX6 hown hK.1 hP 0 rfl rfl 5 (by decide) (htb _ k_163) (fun _ h9 => h9) rfl dX6_readOperand_9 ?_
  refine lv_iconst (v := 3) hx hb dX6_readOperand_12 (by decide) ?_
  refine lv_icmp_ne (tgt := 37) hx hb dX6_readOperand_13 (by decide) (fun c_2 => ?_) (fun c_2 => absurd c_2 (by decide))
  refine lv_aload_n hx hb dX6_readOperand_37 rfl (lv_at hl 0 rfl) ?_
  refine va_get (D := D) (ci := 6) (v := .int 0) (C := RX6) (T := TX6) (N := 8) hx hb htb iX6 hown hK.1 hP 0 rfl rfl 5 (by decide) (htb _ k_163) (fun _ h9 => h9) rfl dX6_readOperand_38 ?_
  refine lv_bipush (v := 40) hx hb dX6_readOperand_41 (by decide) ?_
  refine lv_icmp_eq (tgt := 64) hx hb dX6_readOperand_43 (by decide) (fun c_3 => absurd c_3 (by decide)) (fun c_3 => ?_)
  refine lv_aload_n hx hb dX6_readOperand_46 rfl (lv_at hl 0 rfl) ?_
  refine va_get (D := D) (ci := 6) (v := .int 0) (C := RX6) (T := TX6) (N := 8) hx hb htb iX6 hown hK.1 hP 0 rfl rfl 5 (by decide) (htb _ k_163) (fun _ h9 => h9) rfl dX6_readOperand_47 ?_
  refine lv_bipush (v := 7) hx hb dX6_readOperand_50 (by decide) ?_
  refine lv_icmp_eq (tgt := 64) hx hb dX6_readOperand_52 (by decide) (fun c_4 => absurd c_4 (by decide)) (fun c_4 => ?_)
  refine lv_aload_n hx hb dX6_readOperand_55 rfl (lv_at hl 0 rfl) ?_
  refine va_get (D := D) (ci := 6) (v := .int 0) (C := RX6) (T := TX6) (N := 8) hx hb htb iX6 hown hK.1 hP 0 rfl rfl 5 (by decide) (htb _ k_163) (fun _ h9 => h9) rfl dX6_readOperand_56 ?_
  refine lv_bipush (v := 45) hx hb dX6_readOperand_59 (by decide) ?_
  refine lv_icmp_ne (tgt := 70) hx hb dX6_readOperand_61 (by decide) (fun c_5 => ?_) (fun c_5 => absurd c_5 (by decide))
  refine lv_iconst (v := 0) hx hb dX6_readOperand_70 (by decide) ?_
  exact W.zret (v := 0) hx hb hr rfl (fun t ht hW => ⟨0, rfl, ⟨rfl, trivial⟩, ht⟩) (fun q h => by cases h) dX6_readOperand_71
set_option maxHeartbeats 4000000 in
set_option maxRecDepth 100000 in
theorem c_X6_readProduct (l : Launch) (D : va_G) (E : Nat → Nat) (h0 : Nat) (q1 : Nat) (q2 : Nat) (q3 : Nat) (p0 : Int32)  : Met l yX6_readProduct (wl yX6_readProduct cX6_readProduct 5 (some .boolean)) (RM 1 0 0) (rd_P D E [.ref h0, .int p0] [(h0, .inr (6, [.ref q1, .int 0, .ref q2, .ref q3, .int 0, .int 0, .int 0, .int 0]))]) (rd_Q (fun r => (r = 0 ∧ True))) 0 0 (fun _ => False) := by
  refine Met.ofW (cc := cX6_readProduct) (maxL := 5) (ret := (some .boolean)) (by decide) rfl ?_
  intro p e s m args below meth c s₁ B hml hv
  obtain ⟨rfl, hP, hK⟩ := hv
  have hx := B.exec
  have hb := B.bytes
  have hr := B.returns
  have hts := atoms_spec (ws := wl yX6_readProduct cX6_readProduct 5 (some .boolean)) B.pre
  have htb : ∀ w ∈ tb, w.before _ s = true := fun w h => hts w (List.mem_cons_of_mem _ h)
  have hown : s.vm.findClass RX6 = some m.cls := findClass_of_methodNamed B.named
  have hlocks := B.notSynchronized
  have hP : va_P D vwCl [(h0, .inr (6, [.ref q1, .int 0, .ref q2, .ref q3, .int 0, .int 0, .int 0, .int 0]))] s.heap := hP
  have hl := lv_entry ([.ref h0, .int p0]) (n := 5) (Nat.le_of_ble_eq_true rfl)
  rw [lg_entry_eq]
  generalize (lg_sl ([.ref h0, .int p0]) ++ List.replicate (5 - (lg_sl ([.ref h0, .int p0])).length) Slot.unset).toArray = ls at hl ⊢
  have hl : lv_has ls 5 [(0, .ref h0), (1, .int p0)] := hl
  have lo_p0 := i_lo p0
  have hi_p0 := i_hi p0
  refine lv_aload_n hx hb dX6_readProduct_0 rfl (lv_at hl 0 rfl) ?_
  refine lv_iload_n hx hb dX6_readProduct_1 rfl (lv_at hl 1 rfl) ?_
  refine callRV (rest := []) (As := [.int p0]) hx hb hml hown htb hK (c_X6_readOperand l D E h0 q1 q2 q3 p0 ) ok_X6_readOperand k_692 k_694 ks_22 k_5 k_695 ⟨(Nat.le_of_ble_eq_true rfl), (Nat.le_of_ble_eq_true rfl)⟩ ⟨(Nat.le_of_ble_eq_true rfl), (Nat.le_of_ble_eq_true rfl)⟩ hl.1 (Nat.le_of_ble_eq_true rfl) rfl rfl dX6_readProduct_2 (hP.sub (ws' := [(h0, .inr (6, [.ref q1, .int 0, .ref q2, .ref q3, .int 0, .int 0, .int 0, .int 0]))]) [0] rfl) rfl rfl 0 rfl (fun r_2 hw_1 => ?_)
  obtain ⟨hr_2, hw_1⟩ := hw_1
  refine W_top (y := .int 0) (by rw [hr_2]) ?_
  refine lv_istore_n (lv' := [(2, .int 0), (0, .ref h0), (1, .int p0)]) hx hb dX6_readProduct_5 rfl hl (by decide) rfl (fun ls hl => ?_)
  refine lv_iconst (v := 0) hx hb dX6_readProduct_6 (by decide) ?_
  refine lv_istore_n (lv' := [(3, .int 0), (2, .int 0), (0, .ref h0), (1, .int p0)]) hx hb dX6_readProduct_7 rfl hl (by decide) rfl (fun ls hl => ?_)
  refine lv_iload_n hx hb dX6_readProduct_8 rfl (lv_at hl 0 rfl) ?_
  refine lv_bipush (v := 120) hx hb dX6_readProduct_9 (by decide) ?_
  refine lv_icmp_ge (tgt := 68) hx hb dX6_readProduct_11 (by decide) (fun c_3 => absurd c_3 (by decide)) (fun c_3 => ?_)
  refine lv_iload_n hx hb dX6_readProduct_14 rfl (lv_at hl 1 rfl) ?_
  refine lv_if_eq (tgt := 68) hx hb dX6_readProduct_15 (by decide) (fun c_4 => ?_) (fun c_4 => absurd (by decide) c_4)
  refine lv_iload_n hx hb dX6_readProduct_68 rfl (lv_at hl 1 rfl) ?_
  exact W.zret (v := 0) hx hb hr rfl (fun t ht hW => ⟨0, rfl, ⟨rfl, trivial⟩, ht⟩) (fun q h => by cases h) dX6_readProduct_69
set_option maxHeartbeats 4000000 in
set_option maxRecDepth 100000 in
theorem c_X6_readSum (l : Launch) (D : va_G) (E : Nat → Nat) (h0 : Nat) (q1 : Nat) (q2 : Nat) (q3 : Nat) (p0 : Int32)  : Met l yX6_readSum (wl yX6_readSum cX6_readSum 5 (some .boolean)) (RM 2 0 0) (rd_P D E [.ref h0, .int p0] [(h0, .inr (6, [.ref q1, .int 0, .ref q2, .ref q3, .int 0, .int 0, .int 0, .int 0]))]) (rd_Q (fun r => (r = 0 ∧ True))) 0 0 (fun _ => False) := by
  refine Met.ofW (cc := cX6_readSum) (maxL := 5) (ret := (some .boolean)) (by decide) rfl ?_
  intro p e s m args below meth c s₁ B hml hv
  obtain ⟨rfl, hP, hK⟩ := hv
  have hx := B.exec
  have hb := B.bytes
  have hr := B.returns
  have hts := atoms_spec (ws := wl yX6_readSum cX6_readSum 5 (some .boolean)) B.pre
  have htb : ∀ w ∈ tb, w.before _ s = true := fun w h => hts w (List.mem_cons_of_mem _ h)
  have hown : s.vm.findClass RX6 = some m.cls := findClass_of_methodNamed B.named
  have hlocks := B.notSynchronized
  have hP : va_P D vwCl [(h0, .inr (6, [.ref q1, .int 0, .ref q2, .ref q3, .int 0, .int 0, .int 0, .int 0]))] s.heap := hP
  have hl := lv_entry ([.ref h0, .int p0]) (n := 5) (Nat.le_of_ble_eq_true rfl)
  rw [lg_entry_eq]
  generalize (lg_sl ([.ref h0, .int p0]) ++ List.replicate (5 - (lg_sl ([.ref h0, .int p0])).length) Slot.unset).toArray = ls at hl ⊢
  have hl : lv_has ls 5 [(0, .ref h0), (1, .int p0)] := hl
  have lo_p0 := i_lo p0
  have hi_p0 := i_hi p0
  refine lv_aload_n hx hb dX6_readSum_0 rfl (lv_at hl 0 rfl) ?_
  refine lv_iload_n hx hb dX6_readSum_1 rfl (lv_at hl 1 rfl) ?_
  refine callRV (rest := []) (As := [.int p0]) hx hb hml hown htb hK (c_X6_readProduct l D E h0 q1 q2 q3 p0 ) ok_X6_readProduct k_688 k_690 ks_21 k_5 k_691 ⟨(Nat.le_of_ble_eq_true rfl), (Nat.le_of_ble_eq_true rfl)⟩ ⟨(Nat.le_of_ble_eq_true rfl), (Nat.le_of_ble_eq_true rfl)⟩ hl.1 (Nat.le_of_ble_eq_true rfl) rfl rfl dX6_readSum_2 (hP.sub (ws' := [(h0, .inr (6, [.ref q1, .int 0, .ref q2, .ref q3, .int 0, .int 0, .int 0, .int 0]))]) [0] rfl) rfl rfl 0 rfl (fun r_2 hw_1 => ?_)
  obtain ⟨hr_2, hw_1⟩ := hw_1
  refine W_top (y := .int 0) (by rw [hr_2]) ?_
  refine lv_istore_n (lv' := [(2, .int 0), (0, .ref h0), (1, .int p0)]) hx hb dX6_readSum_5 rfl hl (by decide) rfl (fun ls hl => ?_)
  refine lv_iconst (v := 0) hx hb dX6_readSum_6 (by decide) ?_
  refine lv_istore_n (lv' := [(3, .int 0), (2, .int 0), (0, .ref h0), (1, .int p0)]) hx hb dX6_readSum_7 rfl hl (by decide) rfl (fun ls hl => ?_)
  refine lv_iload_n hx hb dX6_readSum_8 rfl (lv_at hl 0 rfl) ?_
  refine lv_bipush (v := 120) hx hb dX6_readSum_9 (by decide) ?_
  refine lv_icmp_ge (tgt := 68) hx hb dX6_readSum_11 (by decide) (fun c_3 => absurd c_3 (by decide)) (fun c_3 => ?_)
  refine lv_iload_n hx hb dX6_readSum_14 rfl (lv_at hl 1 rfl) ?_
  refine lv_if_eq (tgt := 68) hx hb dX6_readSum_15 (by decide) (fun c_4 => ?_) (fun c_4 => absurd (by decide) c_4)
  refine lv_iload_n hx hb dX6_readSum_68 rfl (lv_at hl 1 rfl) ?_
  exact W.zret (v := 0) hx hb hr rfl (fun t ht hW => ⟨0, rfl, ⟨rfl, trivial⟩, ht⟩) (fun q h => by cases h) dX6_readSum_69
set_option maxHeartbeats 4000000 in
set_option maxRecDepth 100000 in
theorem c_X6_readComparison (l : Launch) (D : va_G) (E : Nat → Nat) (h0 : Nat) (q1 : Nat) (q2 : Nat) (q3 : Nat) (p0 : Int32)  : Met l yX6_readComparison (wl yX6_readComparison cX6_readComparison 4 (some .boolean)) (RM 3 0 0) (rd_P D E [.ref h0, .int p0] [(h0, .inr (6, [.ref q1, .int 0, .ref q2, .ref q3, .int 0, .int 0, .int 0, .int 0]))]) (rd_Q (fun r => (r = 0 ∧ True))) 0 0 (fun _ => False) := by
  refine Met.ofW (cc := cX6_readComparison) (maxL := 4) (ret := (some .boolean)) (by decide) rfl ?_
  intro p e s m args below meth c s₁ B hml hv
  obtain ⟨rfl, hP, hK⟩ := hv
  have hx := B.exec
  have hb := B.bytes
  have hr := B.returns
  have hts := atoms_spec (ws := wl yX6_readComparison cX6_readComparison 4 (some .boolean)) B.pre
  have htb : ∀ w ∈ tb, w.before _ s = true := fun w h => hts w (List.mem_cons_of_mem _ h)
  have hown : s.vm.findClass RX6 = some m.cls := findClass_of_methodNamed B.named
  have hlocks := B.notSynchronized
  have hP : va_P D vwCl [(h0, .inr (6, [.ref q1, .int 0, .ref q2, .ref q3, .int 0, .int 0, .int 0, .int 0]))] s.heap := hP
  have hl := lv_entry ([.ref h0, .int p0]) (n := 4) (Nat.le_of_ble_eq_true rfl)
  rw [lg_entry_eq]
  generalize (lg_sl ([.ref h0, .int p0]) ++ List.replicate (4 - (lg_sl ([.ref h0, .int p0])).length) Slot.unset).toArray = ls at hl ⊢
  have hl : lv_has ls 4 [(0, .ref h0), (1, .int p0)] := hl
  have lo_p0 := i_lo p0
  have hi_p0 := i_hi p0
  refine lv_aload_n hx hb dX6_readComparison_0 rfl (lv_at hl 0 rfl) ?_
  refine lv_iload_n hx hb dX6_readComparison_1 rfl (lv_at hl 1 rfl) ?_
  refine callRV (rest := []) (As := [.int p0]) hx hb hml hown htb hK (c_X6_readSum l D E h0 q1 q2 q3 p0 ) ok_X6_readSum k_684 k_686 ks_20 k_5 k_687 ⟨(Nat.le_of_ble_eq_true rfl), (Nat.le_of_ble_eq_true rfl)⟩ ⟨(Nat.le_of_ble_eq_true rfl), (Nat.le_of_ble_eq_true rfl)⟩ hl.1 (Nat.le_of_ble_eq_true rfl) rfl rfl dX6_readComparison_2 (hP.sub (ws' := [(h0, .inr (6, [.ref q1, .int 0, .ref q2, .ref q3, .int 0, .int 0, .int 0, .int 0]))]) [0] rfl) rfl rfl 0 rfl (fun r_2 hw_1 => ?_)
  obtain ⟨hr_2, hw_1⟩ := hw_1
  refine W_top (y := .int 0) (by rw [hr_2]) ?_
  refine lv_istore_n (lv' := [(2, .int 0), (0, .ref h0), (1, .int p0)]) hx hb dX6_readComparison_5 rfl hl (by decide) rfl (fun ls hl => ?_)
  refine lv_iload_n hx hb dX6_readComparison_6 rfl (lv_at hl 0 rfl) ?_
  refine lv_if_eq (tgt := 61) hx hb dX6_readComparison_7 (by decide) (fun c_3 => ?_) (fun c_3 => absurd (by decide) c_3)
  refine lv_iload_n hx hb dX6_readComparison_61 rfl (lv_at hl 0 rfl) ?_
  exact W.zret (v := 0) hx hb hr rfl (fun t ht hW => ⟨0, rfl, ⟨rfl, trivial⟩, ht⟩) (fun q h => by cases h) dX6_readComparison_62
set_option maxHeartbeats 4000000 in
set_option maxRecDepth 100000 in
theorem c_X6_readNegation (l : Launch) (D : va_G) (E : Nat → Nat) (h0 : Nat) (q1 : Nat) (q2 : Nat) (q3 : Nat) (p0 : Int32)  : Met l yX6_readNegation (wl yX6_readNegation cX6_readNegation 3 (some .boolean)) (RM 4 0 0) (rd_P D E [.ref h0, .int p0] [(h0, .inr (6, [.ref q1, .int 0, .ref q2, .ref q3, .int 0, .int 0, .int 0, .int 0]))]) (rd_Q (fun r => (r = 0 ∧ True))) 0 0 (fun _ => False) := by
  refine Met.ofW (cc := cX6_readNegation) (maxL := 3) (ret := (some .boolean)) (by decide) rfl ?_
  intro p e s m args below meth c s₁ B hml hv
  obtain ⟨rfl, hP, hK⟩ := hv
  have hx := B.exec
  have hb := B.bytes
  have hr := B.returns
  have hts := atoms_spec (ws := wl yX6_readNegation cX6_readNegation 3 (some .boolean)) B.pre
  have htb : ∀ w ∈ tb, w.before _ s = true := fun w h => hts w (List.mem_cons_of_mem _ h)
  have hown : s.vm.findClass RX6 = some m.cls := findClass_of_methodNamed B.named
  have hlocks := B.notSynchronized
  have hP : va_P D vwCl [(h0, .inr (6, [.ref q1, .int 0, .ref q2, .ref q3, .int 0, .int 0, .int 0, .int 0]))] s.heap := hP
  have hl := lv_entry ([.ref h0, .int p0]) (n := 3) (Nat.le_of_ble_eq_true rfl)
  rw [lg_entry_eq]
  generalize (lg_sl ([.ref h0, .int p0]) ++ List.replicate (3 - (lg_sl ([.ref h0, .int p0])).length) Slot.unset).toArray = ls at hl ⊢
  have hl : lv_has ls 3 [(0, .ref h0), (1, .int p0)] := hl
  have lo_p0 := i_lo p0
  have hi_p0 := i_hi p0
  refine lv_aload_n hx hb dX6_readNegation_0 rfl (lv_at hl 0 rfl) ?_
  refine va_get (D := D) (ci := 6) (v := .int 0) (C := RX6) (T := TX6) (N := 8) hx hb htb iX6 hown hK.1 hP 0 rfl rfl 5 (by decide) (htb _ k_163) (fun _ h9 => h9) rfl dX6_readNegation_1 ?_
  refine lv_bipush (v := 6) hx hb dX6_readNegation_4 (by decide) ?_
  refine lv_icmp_eq (tgt := 15) hx hb dX6_readNegation_6 (by decide) (fun c_1 => absurd c_1 (by decide)) (fun c_1 => ?_)
  refine lv_aload_n hx hb dX6_readNegation_9 rfl (lv_at hl 0 rfl) ?_
  refine lv_iload_n hx hb dX6_readNegation_10 rfl (lv_at hl 1 rfl) ?_
  refine callRV (rest := []) (As := [.int p0]) hx hb hml hown htb hK (c_X6_readComparison l D E h0 q1 q2 q3 p0 ) ok_X6_readComparison k_680 k_682 ks_19 k_5 k_683 ⟨(Nat.le_of_ble_eq_true rfl), (Nat.le_of_ble_eq_true rfl)⟩ ⟨(Nat.le_of_ble_eq_true rfl), (Nat.le_of_ble_eq_true rfl)⟩ hl.1 (Nat.le_of_ble_eq_true rfl) rfl rfl dX6_readNegation_11 (hP.sub (ws' := [(h0, .inr (6, [.ref q1, .int 0, .ref q2, .ref q3, .int 0, .int 0, .int 0, .int 0]))]) [0] rfl) rfl rfl 0 rfl (fun r_3 hw_2 => ?_)
  obtain ⟨hr_3, hw_2⟩ := hw_2
  refine W_top (y := .int 0) (by rw [hr_3]) ?_
  exact W.zret (v := 0) hx hb hr rfl (fun t ht hW => ⟨0, rfl, ⟨rfl, trivial⟩, ht⟩) (fun q h => by cases h) dX6_readNegation_14
set_option maxHeartbeats 4000000 in
set_option maxRecDepth 100000 in
theorem c_X6_readBoth (l : Launch) (D : va_G) (E : Nat → Nat) (h0 : Nat) (q1 : Nat) (q2 : Nat) (q3 : Nat) (p0 : Int32)  : Met l yX6_readBoth (wl yX6_readBoth cX6_readBoth 4 (some .boolean)) (RM 5 0 0) (rd_P D E [.ref h0, .int p0] [(h0, .inr (6, [.ref q1, .int 0, .ref q2, .ref q3, .int 0, .int 0, .int 0, .int 0]))]) (rd_Q (fun r => (r = 0 ∧ True))) 0 0 (fun _ => False) := by
  refine Met.ofW (cc := cX6_readBoth) (maxL := 4) (ret := (some .boolean)) (by decide) rfl ?_
  intro p e s m args below meth c s₁ B hml hv
  obtain ⟨rfl, hP, hK⟩ := hv
  have hx := B.exec
  have hb := B.bytes
  have hr := B.returns
  have hts := atoms_spec (ws := wl yX6_readBoth cX6_readBoth 4 (some .boolean)) B.pre
  have htb : ∀ w ∈ tb, w.before _ s = true := fun w h => hts w (List.mem_cons_of_mem _ h)
  have hown : s.vm.findClass RX6 = some m.cls := findClass_of_methodNamed B.named
  have hlocks := B.notSynchronized
  have hP : va_P D vwCl [(h0, .inr (6, [.ref q1, .int 0, .ref q2, .ref q3, .int 0, .int 0, .int 0, .int 0]))] s.heap := hP
  have hl := lv_entry ([.ref h0, .int p0]) (n := 4) (Nat.le_of_ble_eq_true rfl)
  rw [lg_entry_eq]
  generalize (lg_sl ([.ref h0, .int p0]) ++ List.replicate (4 - (lg_sl ([.ref h0, .int p0])).length) Slot.unset).toArray = ls at hl ⊢
  have hl : lv_has ls 4 [(0, .ref h0), (1, .int p0)] := hl
  have lo_p0 := i_lo p0
  have hi_p0 := i_hi p0
  refine lv_aload_n hx hb dX6_readBoth_0 rfl (lv_at hl 0 rfl) ?_
  refine lv_iload_n hx hb dX6_readBoth_1 rfl (lv_at hl 1 rfl) ?_
  refine callRV (rest := []) (As := [.int p0]) hx hb hml hown htb hK (c_X6_readNegation l D E h0 q1 q2 q3 p0 ) ok_X6_readNegation k_676 k_678 ks_18 k_5 k_679 ⟨(Nat.le_of_ble_eq_true rfl), (Nat.le_of_ble_eq_true rfl)⟩ ⟨(Nat.le_of_ble_eq_true rfl), (Nat.le_of_ble_eq_true rfl)⟩ hl.1 (Nat.le_of_ble_eq_true rfl) rfl rfl dX6_readBoth_2 (hP.sub (ws' := [(h0, .inr (6, [.ref q1, .int 0, .ref q2, .ref q3, .int 0, .int 0, .int 0, .int 0]))]) [0] rfl) rfl rfl 0 rfl (fun r_2 hw_1 => ?_)
  obtain ⟨hr_2, hw_1⟩ := hw_1
  refine W_top (y := .int 0) (by rw [hr_2]) ?_
  refine lv_istore_n (lv' := [(2, .int 0), (0, .ref h0), (1, .int p0)]) hx hb dX6_readBoth_5 rfl hl (by decide) rfl (fun ls hl => ?_)
  refine lv_iconst (v := 0) hx hb dX6_readBoth_6 (by decide) ?_
  refine lv_istore_n (lv' := [(3, .int 0), (2, .int 0), (0, .ref h0), (1, .int p0)]) hx hb dX6_readBoth_7 rfl hl (by decide) rfl (fun ls hl => ?_)
  refine lv_iload_n hx hb dX6_readBoth_8 rfl (lv_at hl 0 rfl) ?_
  refine lv_bipush (v := 120) hx hb dX6_readBoth_9 (by decide) ?_
  refine lv_icmp_ge (tgt := 51) hx hb dX6_readBoth_11 (by decide) (fun c_3 => absurd c_3 (by decide)) (fun c_3 => ?_)
  refine lv_iload_n hx hb dX6_readBoth_14 rfl (lv_at hl 1 rfl) ?_
  refine lv_if_eq (tgt := 51) hx hb dX6_readBoth_15 (by decide) (fun c_4 => ?_) (fun c_4 => absurd (by decide) c_4)
  refine lv_iload_n hx hb dX6_readBoth_51 rfl (lv_at hl 1 rfl) ?_
  exact W.zret (v := 0) hx hb hr rfl (fun t ht hW => ⟨0, rfl, ⟨rfl, trivial⟩, ht⟩) (fun q h => by cases h) dX6_readBoth_52
set_option maxHeartbeats 4000000 in
set_option maxRecDepth 100000 in
theorem c_X6_readEither (l : Launch) (D : va_G) (E : Nat → Nat) (h0 : Nat) (q1 : Nat) (q2 : Nat) (q3 : Nat) (p0 : Int32)  : Met l yX6_readEither (wl yX6_readEither cX6_readEither 4 (some .boolean)) (RM 6 0 0) (rd_P D E [.ref h0, .int p0] [(h0, .inr (6, [.ref q1, .int 0, .ref q2, .ref q3, .int 0, .int 0, .int 0, .int 0]))]) (rd_Q (fun r => (r = 0 ∧ True))) 0 0 (fun _ => False) := by
  refine Met.ofW (cc := cX6_readEither) (maxL := 4) (ret := (some .boolean)) (by decide) rfl ?_
  intro p e s m args below meth c s₁ B hml hv
  obtain ⟨rfl, hP, hK⟩ := hv
  have hx := B.exec
  have hb := B.bytes
  have hr := B.returns
  have hts := atoms_spec (ws := wl yX6_readEither cX6_readEither 4 (some .boolean)) B.pre
  have htb : ∀ w ∈ tb, w.before _ s = true := fun w h => hts w (List.mem_cons_of_mem _ h)
  have hown : s.vm.findClass RX6 = some m.cls := findClass_of_methodNamed B.named
  have hlocks := B.notSynchronized
  have hP : va_P D vwCl [(h0, .inr (6, [.ref q1, .int 0, .ref q2, .ref q3, .int 0, .int 0, .int 0, .int 0]))] s.heap := hP
  have hl := lv_entry ([.ref h0, .int p0]) (n := 4) (Nat.le_of_ble_eq_true rfl)
  rw [lg_entry_eq]
  generalize (lg_sl ([.ref h0, .int p0]) ++ List.replicate (4 - (lg_sl ([.ref h0, .int p0])).length) Slot.unset).toArray = ls at hl ⊢
  have hl : lv_has ls 4 [(0, .ref h0), (1, .int p0)] := hl
  have lo_p0 := i_lo p0
  have hi_p0 := i_hi p0
  refine lv_aload_n hx hb dX6_readEither_0 rfl (lv_at hl 0 rfl) ?_
  refine lv_iload_n hx hb dX6_readEither_1 rfl (lv_at hl 1 rfl) ?_
  refine callRV (rest := []) (As := [.int p0]) hx hb hml hown htb hK (c_X6_readBoth l D E h0 q1 q2 q3 p0 ) ok_X6_readBoth k_672 k_674 ks_17 k_5 k_675 ⟨(Nat.le_of_ble_eq_true rfl), (Nat.le_of_ble_eq_true rfl)⟩ ⟨(Nat.le_of_ble_eq_true rfl), (Nat.le_of_ble_eq_true rfl)⟩ hl.1 (Nat.le_of_ble_eq_true rfl) rfl rfl dX6_readEither_2 (hP.sub (ws' := [(h0, .inr (6, [.ref q1, .int 0, .ref q2, .ref q3, .int 0, .int 0, .int 0, .int 0]))]) [0] rfl) rfl rfl 0 rfl (fun r_2 hw_1 => ?_)
  obtain ⟨hr_2, hw_1⟩ := hw_1
  refine W_top (y := .int 0) (by rw [hr_2]) ?_
  refine lv_istore_n (lv' := [(2, .int 0), (0, .ref h0), (1, .int p0)]) hx hb dX6_readEither_5 rfl hl (by decide) rfl (fun ls hl => ?_)
  refine lv_iconst (v := 0) hx hb dX6_readEither_6 (by decide) ?_
  refine lv_istore_n (lv' := [(3, .int 0), (2, .int 0), (0, .ref h0), (1, .int p0)]) hx hb dX6_readEither_7 rfl hl (by decide) rfl (fun ls hl => ?_)
  refine lv_iload_n hx hb dX6_readEither_8 rfl (lv_at hl 0 rfl) ?_
  refine lv_bipush (v := 120) hx hb dX6_readEither_9 (by decide) ?_
  refine lv_icmp_ge (tgt := 51) hx hb dX6_readEither_11 (by decide) (fun c_3 => absurd c_3 (by decide)) (fun c_3 => ?_)
  refine lv_iload_n hx hb dX6_readEither_14 rfl (lv_at hl 1 rfl) ?_
  refine lv_if_eq (tgt := 51) hx hb dX6_readEither_15 (by decide) (fun c_4 => ?_) (fun c_4 => absurd (by decide) c_4)
  refine lv_iload_n hx hb dX6_readEither_51 rfl (lv_at hl 1 rfl) ?_
  exact W.zret (v := 0) hx hb hr rfl (fun t ht hW => ⟨0, rfl, ⟨rfl, trivial⟩, ht⟩) (fun q h => by cases h) dX6_readEither_52
set_option maxHeartbeats 4000000 in
set_option maxRecDepth 100000 in
theorem c_X6_goOn (l : Launch) (D : va_G) (E : Nat → Nat) (h0 : Nat) (q1 : Nat) (q2 : Nat) (q3 : Nat) (sz : Nat)  : Met l yX6_goOn (wl yX6_goOn cX6_goOn 1 none) (RM 0 0 0) (mu_P D E [.ref h0] [(h0, .inr (6, [.ref q1, .int 0, .ref q2, .ref q3, .int 0, .int 0, .int 0, .int 0]))] sz) (va_Qv (fun (u : Unit) => True) (mu_B D (va_A [(h0, .inr (6, [.ref q1, .int 0, .ref q2, .ref q3, .int 0, .int 0, .int 0, .int 0]))] sz) (fun (u : Unit) => [(h0, .inr (6, [.ref q1, .int 0, .ref q2, .ref q3, .int 0, .int 0, .int 0, .int 0]))])) (va_A [(h0, .inr (6, [.ref q1, .int 0, .ref q2, .ref q3, .int 0, .int 0, .int 0, .int 0]))] sz)) 0 0 (va_A [(h0, .inr (6, [.ref q1, .int 0, .ref q2, .ref q3, .int 0, .int 0, .int 0, .int 0]))] sz) := by
  refine Met.ofW (cc := cX6_goOn) (maxL := 1) (ret := none) (by decide) rfl ?_
  intro p e s m args below meth c s₁ B hml hv
  obtain ⟨rfl, hsz, hP, hK, hD0⟩ := hv
  have hx := B.exec
  have hb := B.bytes
  have hr := B.returns
  have hts := atoms_spec (ws := wl yX6_goOn cX6_goOn 1 none) B.pre
  have htb : ∀ w ∈ tb, w.before _ s = true := fun w h => hts w (List.mem_cons_of_mem _ h)
  have hown : s.vm.findClass RX6 = some m.cls := findClass_of_methodNamed B.named
  have hlocks := B.notSynchronized
  subst hsz
  have hD := hD0.self (sz := s.heap.size)
  generalize hAe : va_A [(h0, .inr (6, [.ref q1, .int 0, .ref q2, .ref q3, .int 0, .int 0, .int 0, .int 0]))] s.heap.size = A at hD ⊢
  have hA : ∀ q : Nat, s.heap.size ≤ q → A q := fun q h => by rw [← hAe]; exact Or.inr h
  have hS : va_S A s.heap s.heap [] := va_S.rf
  have hP : va_P D vwCl [(h0, .inr (6, [.ref q1, .int 0, .ref q2, .ref q3, .int 0, .int 0, .int 0, .int 0]))] s.heap := hP
  have hl := lv_entry ([.ref h0]) (n := 1) (Nat.le_of_ble_eq_true rfl)
  rw [lg_entry_eq]
  generalize (lg_sl ([.ref h0]) ++ List.replicate (1 - (lg_sl ([.ref h0])).length) Slot.unset).toArray = ls at hl ⊢
  have hl : lv_has ls 1 [(0, .ref h0)] := hl
  refine lv_aload_n hx hb dX6_goOn_0 rfl (lv_at hl 0 rfl) ?_
  refine va_get (D := D) (ci := 6) (v := .int 0) (C := RX6) (T := TX6) (N := 8) hx hb htb iX6 hown hK.1 hP 0 rfl rfl 4 (by decide) (htb _ k_162) (fun _ h9 => h9) rfl dX6_goOn_1 ?_
  refine lv_aload_n hx hb dX6_goOn_4 rfl (lv_at hl 0 rfl) ?_
  refine va_get (D := D) (ci := 6) (v := .int 0) (C := RX6) (T := TX6) (N := 8) hx hb htb iX6 hown hK.1 hP 0 rfl rfl 1 (by decide) (htb _ k_158) (fun _ h9 => h9) rfl dX6_goOn_5 ?_
  refine lv_icmp_ge (tgt := 38) hx hb dX6_goOn_8 (by decide) (fun c_1 => ?_) (fun c_1 => absurd (by decide) c_1)
  refine lv_aload_n hx hb dX6_goOn_38 rfl (lv_at hl 0 rfl) ?_
  refine lv_aload_n hx hb dX6_goOn_39 rfl (lv_at hl 0 rfl) ?_
  refine va_get (D := D) (ci := 6) (v := .int 0) (C := RX6) (T := TX6) (N := 8) hx hb htb iX6 hown hK.1 hP 0 rfl rfl 4 (by decide) (htb _ k_162) (fun _ h9 => h9) rfl dX6_goOn_40 ?_
  refine va_put (D := D) (ci := 6) (v := .int 0) (ty := .int) (C := RX6) (T := TX6) (N := 8) hx hb htb iX6 tyX6 tyX6_ok nmX6 hown hK.1 hP hD hS 0 rfl rfl 6 (by decide) (htb _ k_164) (fun _ h9 => h9) rfl (by decide +kernel) rfl rfl (Nat.le_of_ble_eq_true rfl) dX6_goOn_43 (fun H locs hP hD hS => ?_)
  have hP : va_P D vwCl [(h0, .inr (6, [.ref q1, .int 0, .ref q2, .ref q3, .int 0, .int 0, .int 0, .int 0]))] H := hP
  have hD : va_D A [(h0, .inr (6, [.ref q1, .int 0, .ref q2, .ref q3, .int 0, .int 0, .int 0, .int 0]))] := hD
  refine lv_aload_n hx hb dX6_goOn_46 rfl (lv_at hl 0 rfl) ?_
  refine va_get (D := D) (ci := 6) (v := .int 0) (C := RX6) (T := TX6) (N := 8) hx hb htb iX6 hown hK.1 hP 0 rfl rfl 4 (by decide) (htb _ k_162) (fun _ h9 => h9) rfl dX6_goOn_47 ?_
  refine lv_aload_n hx hb dX6_goOn_50 rfl (lv_at hl 0 rfl) ?_
  refine va_get (D := D) (ci := 6) (v := .int 0) (C := RX6) (T := TX6) (N := 8) hx hb htb iX6 hown hK.1 hP 0 rfl rfl 1 (by decide) (htb _ k_158) (fun _ h9 => h9) rfl dX6_goOn_51 ?_
  refine lv_icmp_lt (tgt := 65) hx hb dX6_goOn_54 (by decide) (fun c_2 => absurd c_2 (by decide)) (fun c_2 => ?_)
  refine lv_aload_n hx hb dX6_goOn_57 rfl (lv_at hl 0 rfl) ?_
  refine lv_iconst (v := 0) hx hb dX6_goOn_58 (by decide) ?_
  refine va_put (D := D) (ci := 6) (v := .int 0) (ty := .int) (C := RX6) (T := TX6) (N := 8) hx hb htb iX6 tyX6 tyX6_ok nmX6 hown hK.1 hP hD hS 0 rfl rfl 5 (by decide) (htb _ k_163) (fun _ h9 => h9) rfl (by decide +kernel) rfl rfl (Nat.le_of_ble_eq_true rfl) dX6_goOn_59 (fun H locs hP hD hS => ?_)
  have hP : va_P D vwCl [(h0, .inr (6, [.ref q1, .int 0, .ref q2, .ref q3, .int 0, .int 0, .int 0, .int 0]))] H := hP
  have hD : va_D A [(h0, .inr (6, [.ref q1, .int 0, .ref q2, .ref q3, .int 0, .int 0, .int 0, .int 0]))] := hD
  refine lv_goto (tgt := 151) hx hb dX6_goOn_62 (by decide) ?_
  have hP9 := hP.sub (ws' := [(h0, .inr (6, [.ref q1, .int 0, .ref q2, .ref q3, .int 0, .int 0, .int 0, .int 0]))]) [0] rfl
  have hD9 := hD.sub (ws' := [(h0, .inr (6, [.ref q1, .int 0, .ref q2, .ref q3, .int 0, .int 0, .int 0, .int 0]))]) [0] (by decide) rfl
  exact W.vret hx hb hr (fun t ht hW => ⟨⟨(), rfl, trivial, by rw [ht]; exact hP9, hD9⟩, hS.F ht⟩) hS.2.2 dX6_goOn_151
set_option maxHeartbeats 4000000 in
set_option maxRecDepth 100000 in
theorem c_X6_readAsRule (l : Launch) (D : va_G) (E : Nat → Nat) (h0 : Nat) (q1 : Nat) (q2 : Nat) (q3 : Nat) (q4 : Nat) (r0 : Nat) (r1 : Nat) (r2 : Nat) (sz : Nat)  : Met l yX6_readAsRule (wl yX6_readAsRule cX6_readAsRule 3 (some .int)) (RM 7 0 0) (mu_P D E [.ref h0, .ref q4] [(h0, .inr (6, [.ref q1, .int 0, .ref q2, .ref q3, .int 0, .int 0, .int 0, .int 0])), (q2, .inr (4, [.ref r0, .ref r1, .ref r2, .int 0]))] sz) (va_Qi (fun (r : Int32) (u : Unit) => (r = 0 ∧ True)) (mu_B D (va_A [(h0, .inr (6, [.ref q1, .int 0, .ref q2, .ref q3, .int 0, .int 0, .int 0, .int 0])), (q2, .inr (4, [.ref r0, .ref r1, .ref r2, .int 0]))] sz) (fun (u : Unit) => [(h0, .inr (6, [.ref q1, .int 0, .ref q2, .ref q4, .int 0, .int 0, .int 0, .int 0]))])) (va_A [(h0, .inr (6, [.ref q1, .int 0, .ref q2, .ref q3, .int 0, .int 0, .int 0, .int 0])), (q2, .inr (4, [.ref r0, .ref r1, .ref r2, .int 0]))] sz)) 0 0 (va_A [(h0, .inr (6, [.ref q1, .int 0, .ref q2, .ref q3, .int 0, .int 0, .int 0, .int 0])), (q2, .inr (4, [.ref r0, .ref r1, .ref r2, .int 0]))] sz) := by
  refine Met.ofW (cc := cX6_readAsRule) (maxL := 3) (ret := (some .int)) (by decide) rfl ?_
  intro p e s m args below meth c s₁ B hml hv
  obtain ⟨rfl, hsz, hP, hK, hD0⟩ := hv
  have hx := B.exec
  have hb := B.bytes
  have hr := B.returns
  have hts := atoms_spec (ws := wl yX6_readAsRule cX6_readAsRule 3 (some .int)) B.pre
  have htb : ∀ w ∈ tb, w.before _ s = true := fun w h => hts w (List.mem_cons_of_mem _ h)
  have hown : s.vm.findClass RX6 = some m.cls := findClass_of_methodNamed B.named
  have hlocks := B.notSynchronized
  subst hsz
  have hD := hD0.self (sz := s.heap.size)
  generalize hAe : va_A [(h0, .inr (6, [.ref q1, .int 0, .ref q2, .ref q3, .int 0, .int 0, .int 0, .int 0])), (q2, .inr (4, [.ref r0, .ref r1, .ref r2, .int 0]))] s.heap.size = A at hD ⊢
  have hA : ∀ q : Nat, s.heap.size ≤ q → A q := fun q h => by rw [← hAe]; exact Or.inr h
  have hS : va_S A s.heap s.heap [] := va_S.rf
  have hP : va_P D vwCl [(h0, .inr (6, [.ref q1, .int 0, .ref q2, .ref q3, .int 0, .int 0, .int 0, .int 0])), (q2, .inr (4, [.ref r0, .ref r1, .ref r2, .int 0]))] s.heap := hP
  have hl := lv_entry ([.ref h0, .ref q4]) (n := 3) (Nat.le_of_ble_eq_true rfl)
  rw [lg_entry_eq]
  generalize (lg_sl ([.ref h0, .ref q4]) ++ List.replicate (3 - (lg_sl ([.ref h0, .ref q4])).length) Slot.unset).toArray = ls at hl ⊢
  have hl : lv_has ls 3 [(0, .ref h0), (1, .ref q4)] := hl
  refine lv_aload_n hx hb dX6_readAsRule_0 rfl (lv_at hl 0 rfl) ?_
  refine lv_aload_n hx hb dX6_readAsRule_1 rfl (lv_at hl 1 rfl) ?_
  refine va_put (D := D) (ci := 6) (v := .ref q4) (ty := .object "java/lang/String") (C := RX6) (T := TX6) (N := 8) hx hb htb iX6 tyX6 tyX6_ok nmX6 hown hK.1 hP hD hS 0 rfl rfl 3 (by decide) (htb _ k_161) (fun _ h9 => h9) rfl (by decide +kernel) rfl rfl (Nat.le_of_ble_eq_true rfl) dX6_readAsRule_2 (fun H locs hP hD hS => ?_)
  have hP : va_P D vwCl [(h0, .inr (6, [.ref q1, .int 0, .ref q2, .ref q4, .int 0, .int 0, .int 0, .int 0])), (q2, .inr (4, [.ref r0, .ref r1, .ref r2, .int 0]))] H := hP
  have hD : va_D A [(h0, .inr (6, [.ref q1, .int 0, .ref q2, .ref q4, .int 0, .int 0, .int 0, .int 0])), (q2, .inr (4, [.ref r0, .ref r1, .ref r2, .int 0]))] := hD
  refine lv_aload_n hx hb dX6_readAsRule_5 rfl (lv_at hl 0 rfl) ?_
  refine va_get (D := D) (ci := 6) (v := .ref q2) (C := RX6) (T := TX6) (N := 8) hx hb htb iX6 hown hK.1 hP 0 rfl rfl 2 (by decide) (htb _ k_160) (fun _ h9 => h9) rfl dX6_readAsRule_6 ?_
  refine lv_iconst (v := 0) hx hb dX6_readAsRule_9 (by decide) ?_
  refine va_putN (D := D) (ci := 4) (v := .int 0) (ty := .int) (C := RX4) (T := TX4) (N := 4) hx hb htb iX4 tyX4 tyX4_ok nmX4 hown hK.1 hP hD hS 1 rfl rfl 3 (by decide) (va_Nw.use rfl (hK.2.1 (Cond.fieldLinkNest RX6 44 "SeaWatches$Rule" "size" "I" "SeaWatches") (by decide +kernel))) (fun _ h9 => h9) rfl (by decide +kernel) rfl rfl (Nat.le_of_ble_eq_true rfl) dX6_readAsRule_10 (fun H locs hP hD hS => ?_)
  have hP : va_P D vwCl [(h0, .inr (6, [.ref q1, .int 0, .ref q2, .ref q4, .int 0, .int 0, .int 0, .int 0])), (q2, .inr (4, [.ref r0, .ref r1, .ref r2, .int 0]))] H := hP
  have hD : va_D A [(h0, .inr (6, [.ref q1, .int 0, .ref q2, .ref q4, .int 0, .int 0, .int 0, .int 0])), (q2, .inr (4, [.ref r0, .ref r1, .ref r2, .int 0]))] := hD
  refine lv_aload_n hx hb dX6_readAsRule_13 rfl (lv_at hl 0 rfl) ?_
  refine lv_iconst (v := 0) hx hb dX6_readAsRule_14 (by decide) ?_
  refine va_put (D := D) (ci := 6) (v := .int 0) (ty := .int) (C := RX6) (T := TX6) (N := 8) hx hb htb iX6 tyX6 tyX6_ok nmX6 hown hK.1 hP hD hS 0 rfl rfl 4 (by decide) (htb _ k_162) (fun _ h9 => h9) rfl (by decide +kernel) rfl rfl (Nat.le_of_ble_eq_true rfl) dX6_readAsRule_15 (fun H locs hP hD hS => ?_)
  have hP : va_P D vwCl [(h0, .inr (6, [.ref q1, .int 0, .ref q2, .ref q4, .int 0, .int 0, .int 0, .int 0])), (q2, .inr (4, [.ref r0, .ref r1, .ref r2, .int 0]))] H := hP
  have hD : va_D A [(h0, .inr (6, [.ref q1, .int 0, .ref q2, .ref q4, .int 0, .int 0, .int 0, .int 0])), (q2, .inr (4, [.ref r0, .ref r1, .ref r2, .int 0]))] := hD
  refine lv_aload_n hx hb dX6_readAsRule_18 rfl (lv_at hl 0 rfl) ?_
  have hPc := hP.sub (ws' := [(h0, .inr (6, [.ref q1, .int 0, .ref q2, .ref q4, .int 0, .int 0, .int 0, .int 0]))]) [0] rfl
  have hDc := hD.sub (ws' := [(h0, .inr (6, [.ref q1, .int 0, .ref q2, .ref q4, .int 0, .int 0, .int 0, .int 0]))]) [0] (by decide) rfl
  refine aft_v (runMV (rest := []) (As := []) hx hb hml hown htb hK (c_X6_goOn l D E h0 q1 q2 q4 _ ) ok_X6_goOn k_591 k_593 ks_11 k_5 k_594 ⟨(Nat.le_of_ble_eq_true rfl), (Nat.le_of_ble_eq_true rfl)⟩ ⟨(Nat.le_of_ble_eq_true rfl), (Nat.le_of_ble_eq_true rfl)⟩ hl.1 (Nat.le_of_ble_eq_true rfl) rfl rfl dX6_readAsRule_19 hPc hDc rfl rfl 0 rfl) hP hD hS hA [0] [1] (wr := [(q2, .inr (4, [.ref r0, .ref r1, .ref r2, .int 0]))]) rfl rfl (by decide) (by decide) (fun u_1 H locs hw_2 hP hD hS => ?_)
  clear hPc hDc
  have hP : va_P D vwCl [(q2, .inr (4, [.ref r0, .ref r1, .ref r2, .int 0])), (h0, .inr (6, [.ref q1, .int 0, .ref q2, .ref q4, .int 0, .int 0, .int 0, .int 0]))] H := hP
  have hD : va_D A [(q2, .inr (4, [.ref r0, .ref r1, .ref r2, .int 0])), (h0, .inr (6, [.ref q1, .int 0, .ref q2, .ref q4, .int 0, .int 0, .int 0, .int 0]))] := hD
  refine lv_aload_n hx hb dX6_readAsRule_22 rfl (lv_at hl 0 rfl) ?_
  refine lv_iconst (v := 0) hx hb dX6_readAsRule_23 (by decide) ?_
  refine callRV (rest := []) (As := [.int 0]) hx hb hml hown htb hK (c_X6_readEither l D E h0 q1 q2 q4 0 ) ok_X6_readEither k_668 k_670 ks_16 k_5 k_671 ⟨(Nat.le_of_ble_eq_true rfl), (Nat.le_of_ble_eq_true rfl)⟩ ⟨(Nat.le_of_ble_eq_true rfl), (Nat.le_of_ble_eq_true rfl)⟩ hl.1 (Nat.le_of_ble_eq_true rfl) rfl rfl dX6_readAsRule_24 (hP.sub (ws' := [(h0, .inr (6, [.ref q1, .int 0, .ref q2, .ref q4, .int 0, .int 0, .int 0, .int 0]))]) [1] rfl) rfl rfl 0 rfl (fun r_5 hw_4 => ?_)
  obtain ⟨hr_5, hw_4⟩ := hw_4
  refine W_top (y := .int 0) (by rw [hr_5]) ?_
  refine lv_istore_n (lv' := [(2, .int 0), (0, .ref h0), (1, .ref q4)]) hx hb dX6_readAsRule_27 rfl hl (by decide) rfl (fun ls hl => ?_)
  refine lv_iload_n hx hb dX6_readAsRule_28 rfl (lv_at hl 0 rfl) ?_
  refine lv_if_eq (tgt := 43) hx hb dX6_readAsRule_29 (by decide) (fun c_6 => ?_) (fun c_6 => absurd (by decide) c_6)
  refine lv_aload_n hx hb dX6_readAsRule_43 rfl (lv_at hl 1 rfl) ?_
  refine va_get (D := D) (ci := 6) (v := .int 0) (C := RX6) (T := TX6) (N := 8) hx hb htb iX6 hown hK.1 hP 1 rfl rfl 6 (by decide) (htb _ k_164) (fun _ h9 => h9) rfl dX6_readAsRule_44 ?_
  have hP9 := hP.sub (ws' := [(h0, .inr (6, [.ref q1, .int 0, .ref q2, .ref q4, .int 0, .int 0, .int 0, .int 0]))]) [1] rfl
  have hD9 := hD.sub (ws' := [(h0, .inr (6, [.ref q1, .int 0, .ref q2, .ref q4, .int 0, .int 0, .int 0, .int 0]))]) [1] (by decide) rfl
  exact W.iret (v := 0) hx hb hr (fun t ht hW => ⟨⟨0, (), rfl, ⟨rfl, trivial⟩, by rw [ht]; exact hP9, hD9⟩, hS.F ht⟩) hS.2.2 dX6_readAsRule_47
set_option maxHeartbeats 4000000 in
set_option maxRecDepth 100000 in
theorem c_X8_rule (l : Launch) (D : va_G) (E : Nat → Nat) (h0 : Nat) (a : Nat → Nat) (p0 : Int32) (sz : Nat)  : Met l yX8_rule (wl yX8_rule cX8_rule 3 (some .int)) (RM 8 0 0) (mu_P D E [.ref h0, .int p0] [(h0, .inr (8, xF a 0)), ((a 9), .inr (6, [.ref (a 23), .int 0, .ref (a 24), .ref (E 5), .int 0, .int 0, .int 0, .int 0])), ((a 24), .inr (4, [.ref (a 25), .ref (a 26), .ref (a 27), .int 0]))] sz) (va_Qi (fun (r : Int32) (u : Unit) => (r = (-100) ∧ (0 ≤ p0.toInt ∧ p0.toInt ≤ 1)) ∨ (r = (-1) ∧ ¬ (0 ≤ p0.toInt ∧ p0.toInt ≤ 1))) (mu_B D (va_A [(h0, .inr (8, xF a 0)), ((a 9), .inr (6, [.ref (a 23), .int 0, .ref (a 24), .ref (E 5), .int 0, .int 0, .int 0, .int 0])), ((a 24), .inr (4, [.ref (a 25), .ref (a 26), .ref (a 27), .int 0]))] sz) (fun (u : Unit) => ([] : va_W))) (va_A [(h0, .inr (8, xF a 0)), ((a 9), .inr (6, [.ref (a 23), .int 0, .ref (a 24), .ref (E 5), .int 0, .int 0, .int 0, .int 0])), ((a 24), .inr (4, [.ref (a 25), .ref (a 26), .ref (a 27), .int 0]))] sz)) 0 0 (va_A [(h0, .inr (8, xF a 0)), ((a 9), .inr (6, [.ref (a 23), .int 0, .ref (a 24), .ref (E 5), .int 0, .int 0, .int 0, .int 0])), ((a 24), .inr (4, [.ref (a 25), .ref (a 26), .ref (a 27), .int 0]))] sz) := by
  refine Met.ofW (cc := cX8_rule) (maxL := 3) (ret := (some .int)) (by decide) rfl ?_
  intro p e s m args below meth c s₁ B hml hv
  obtain ⟨rfl, hsz, hP, hK, hD0⟩ := hv
  have hx := B.exec
  have hb := B.bytes
  have hr := B.returns
  have hts := atoms_spec (ws := wl yX8_rule cX8_rule 3 (some .int)) B.pre
  have htb : ∀ w ∈ tb, w.before _ s = true := fun w h => hts w (List.mem_cons_of_mem _ h)
  have hown : s.vm.findClass RX8 = some m.cls := findClass_of_methodNamed B.named
  have hlocks := B.notSynchronized
  subst hsz
  have hD := hD0.self (sz := s.heap.size)
  generalize hAe : va_A [(h0, .inr (8, xF a 0)), ((a 9), .inr (6, [.ref (a 23), .int 0, .ref (a 24), .ref (E 5), .int 0, .int 0, .int 0, .int 0])), ((a 24), .inr (4, [.ref (a 25), .ref (a 26), .ref (a 27), .int 0]))] s.heap.size = A at hD ⊢
  have hA : ∀ q : Nat, s.heap.size ≤ q → A q := fun q h => by rw [← hAe]; exact Or.inr h
  have hS : va_S A s.heap s.heap [] := va_S.rf
  have hP : va_P D vwCl [(h0, .inr (8, xF a 0)), ((a 9), .inr (6, [.ref (a 23), .int 0, .ref (a 24), .ref (E 5), .int 0, .int 0, .int 0, .int 0])), ((a 24), .inr (4, [.ref (a 25), .ref (a 26), .ref (a 27), .int 0]))] s.heap := hP
  have hl := lv_entry ([.ref h0, .int p0]) (n := 3) (Nat.le_of_ble_eq_true rfl)
  rw [lg_entry_eq]
  generalize (lg_sl ([.ref h0, .int p0]) ++ List.replicate (3 - (lg_sl ([.ref h0, .int p0])).length) Slot.unset).toArray = ls at hl ⊢
  have hl : lv_has ls 3 [(0, .ref h0), (1, .int p0)] := hl
  have lo_p0 := i_lo p0
  have hi_p0 := i_hi p0
  refine lv_iload_n hx hb dX8_rule_0 rfl (lv_at hl 1 rfl) ?_
  refine lv_if_eq (tgt := 11) hx hb dX8_rule_1 (by decide) (fun c_1 => ?_) (fun c_1 => ?_)
  ·
    have ic_1 : p0.toInt = 0 := (g_eq rfl t_0).mp c_1
    refine lv_aload_n hx hb dX8_rule_11 rfl (lv_at hl 0 rfl) ?_
    refine va_get (D := D) (ci := 8) (v := .ref (a 9)) (C := RX8) (T := TX8) (N := 14) hx hb htb iX8 hown hK.1 hP 0 rfl rfl 9 (by decide) (htb _ k_281) (fun _ h9 => h9) rfl dX8_rule_12 ?_
    refine lv_iload_n hx hb dX8_rule_15 rfl (lv_at hl 1 rfl) ?_
    refine lv_if_ne (tgt := 24) hx hb dX8_rule_16 (by decide) (fun c_2 => absurd (by rw [g_eq rfl t_0]; omega) c_2) (fun c_2 => ?_)
    refine va_ldcS hx hb hown hK.2.2.2.2.1 dX8_rule_19 ?_
    refine lv_goto (tgt := 26) hx hb dX8_rule_21 (by decide) ?_
    have hPc := hP.sub (ws' := [((a 9), .inr (6, [.ref (a 23), .int 0, .ref (a 24), .ref (E 5), .int 0, .int 0, .int 0, .int 0])), ((a 24), .inr (4, [.ref (a 25), .ref (a 26), .ref (a 27), .int 0]))]) [1, 2] rfl
    have hDc := hD.sub (ws' := [((a 9), .inr (6, [.ref (a 23), .int 0, .ref (a 24), .ref (E 5), .int 0, .int 0, .int 0, .int 0])), ((a 24), .inr (4, [.ref (a 25), .ref (a 26), .ref (a 27), .int 0]))]) [1, 2] (by decide) rfl
    refine aft_i (runMV (rest := []) (As := [.ref (E 6)]) hx hb hml hown htb hK (c_X6_readAsRule l D E (a 9) (a 23) (a 24) (E 5) (E 6) (a 25) (a 26) (a 27) _ ) ok_X6_readAsRule k_587 k_588 k_589 k_5 k_590 ⟨(Nat.le_of_ble_eq_true rfl), (Nat.le_of_ble_eq_true rfl)⟩ ⟨(Nat.le_of_ble_eq_true rfl), (Nat.le_of_ble_eq_true rfl)⟩ hl.1 (Nat.le_of_ble_eq_true rfl) rfl rfl dX8_rule_26 hPc hDc rfl rfl 0 rfl) hP hD hS hA [1, 2] [0] (wr := [(h0, .inr (8, xF a 0))]) rfl rfl (by decide) (by decide) (fun r_5 u_3 H locs hw_4 hP hD hS => ?_)
    clear hPc hDc
    have hP : va_P D vwCl [(h0, .inr (8, xF a 0)), ((a 9), .inr (6, [.ref (a 23), .int 0, .ref (a 24), .ref (E 6), .int 0, .int 0, .int 0, .int 0]))] H := hP
    have hD : va_D A [(h0, .inr (8, xF a 0)), ((a 9), .inr (6, [.ref (a 23), .int 0, .ref (a 24), .ref (E 6), .int 0, .int 0, .int 0, .int 0]))] := hD
    obtain ⟨hr_5, hw_4⟩ := hw_4
    refine W_top (y := .int 0) (by rw [hr_5]) ?_
    refine lv_istore_n (lv' := [(2, .int 0), (0, .ref h0), (1, .int p0)]) hx hb dX8_rule_29 rfl hl (by decide) rfl (fun ls hl => ?_)
    refine lv_aload_n hx hb dX8_rule_30 rfl (lv_at hl 1 rfl) ?_
    refine va_get (D := D) (ci := 8) (v := .ref (a 9)) (C := RX8) (T := TX8) (N := 14) hx hb htb iX8 hown hK.1 hP 0 rfl rfl 9 (by decide) (htb _ k_281) (fun _ h9 => h9) rfl dX8_rule_31 ?_
    refine lv_iconst (v := 0) hx hb dX8_rule_34 (by decide) ?_
    refine va_putN (D := D) (ci := 6) (v := .int 0) (ty := .int) (C := RX6) (T := TX6) (N := 8) hx hb htb iX6 tyX6 tyX6_ok nmX6 hown hK.1 hP hD hS 1 rfl rfl 1 (by decide) (va_Nw.use rfl (hK.2.1 (Cond.fieldLinkNest RX8 179 "SeaWatches$Tape" "size" "I" "SeaWatches") (by decide +kernel))) (fun _ h9 => h9) rfl (by decide +kernel) rfl rfl (Nat.le_of_ble_eq_true rfl) dX8_rule_35 (fun H locs hP hD hS => ?_)
    have hP : va_P D vwCl [(h0, .inr (8, xF a 0)), ((a 9), .inr (6, [.ref (a 23), .int 0, .ref (a 24), .ref (E 6), .int 0, .int 0, .int 0, .int 0]))] H := hP
    have hD : va_D A [(h0, .inr (8, xF a 0)), ((a 9), .inr (6, [.ref (a 23), .int 0, .ref (a 24), .ref (E 6), .int 0, .int 0, .int 0, .int 0]))] := hD
    refine lv_iload_n hx hb dX8_rule_38 rfl (lv_at hl 0 rfl) ?_
    refine lv_iconst (v := (-1)) hx hb dX8_rule_39 (by decide) ?_
    refine lv_icmp_eq (tgt := 48) hx hb dX8_rule_40 (by decide) (fun c_6 => absurd c_6 (by decide)) (fun c_6 => ?_)
    refine lv_bipush (v := (-100)) hx hb dX8_rule_43 (by decide) ?_
    refine lv_iload_n hx hb dX8_rule_45 rfl (lv_at hl 0 rfl) ?_
    refine lv_isub hx hb dX8_rule_46 ?_
    refine W_top (y := .int (-100)) (by decide) ?_
    have hP9 := hP.sub (ws' := ([] : va_W)) [] rfl
    have hD9 := hD.sub (ws' := ([] : va_W)) [] (by decide) rfl
    exact W.iret (v := (-100)) hx hb hr (fun t ht hW => ⟨⟨(-100), (), rfl, by first | exact Or.inl ⟨rfl, by omega⟩ | (exfalso; omega), by rw [ht]; exact hP9, hD9⟩, hS.F ht⟩) hS.2.2 dX8_rule_47
  ·
    have ic_1 : p0.toInt ≠ 0 := mt (g_eq rfl t_0).mpr c_1
    refine lv_iload_n hx hb dX8_rule_4 rfl (lv_at hl 1 rfl) ?_
    refine lv_iconst (v := 1) hx hb dX8_rule_5 (by decide) ?_
    refine lv_icmp_eq (tgt := 11) hx hb dX8_rule_6 (by decide) (fun c_7 => ?_) (fun c_7 => ?_)
    ·
      have ic_7 : p0.toInt = 1 := (g_eq rfl t_1).mp c_7
      refine lv_aload_n hx hb dX8_rule_11 rfl (lv_at hl 0 rfl) ?_
      refine va_get (D := D) (ci := 8) (v := .ref (a 9)) (C := RX8) (T := TX8) (N := 14) hx hb htb iX8 hown hK.1 hP 0 rfl rfl 9 (by decide) (htb _ k_281) (fun _ h9 => h9) rfl dX8_rule_12 ?_
      refine lv_iload_n hx hb dX8_rule_15 rfl (lv_at hl 1 rfl) ?_
      refine lv_if_ne (tgt := 24) hx hb dX8_rule_16 (by decide) (fun c_8 => ?_) (fun c_8 => absurd c_8 (by rw [g_eq rfl t_0]; omega))
      refine va_ldcS hx hb hown hK.2.2.2.2.2 dX8_rule_24 ?_
      have hPc := hP.sub (ws' := [((a 9), .inr (6, [.ref (a 23), .int 0, .ref (a 24), .ref (E 5), .int 0, .int 0, .int 0, .int 0])), ((a 24), .inr (4, [.ref (a 25), .ref (a 26), .ref (a 27), .int 0]))]) [1, 2] rfl
      have hDc := hD.sub (ws' := [((a 9), .inr (6, [.ref (a 23), .int 0, .ref (a 24), .ref (E 5), .int 0, .int 0, .int 0, .int 0])), ((a 24), .inr (4, [.ref (a 25), .ref (a 26), .ref (a 27), .int 0]))]) [1, 2] (by decide) rfl
      refine aft_i (runMV (rest := []) (As := [.ref (E 7)]) hx hb hml hown htb hK (c_X6_readAsRule l D E (a 9) (a 23) (a 24) (E 5) (E 7) (a 25) (a 26) (a 27) _ ) ok_X6_readAsRule k_587 k_588 k_589 k_5 k_590 ⟨(Nat.le_of_ble_eq_true rfl), (Nat.le_of_ble_eq_true rfl)⟩ ⟨(Nat.le_of_ble_eq_true rfl), (Nat.le_of_ble_eq_true rfl)⟩ hl.1 (Nat.le_of_ble_eq_true rfl) rfl rfl dX8_rule_26 hPc hDc rfl rfl 0 rfl) hP hD hS hA [1, 2] [0] (wr := [(h0, .inr (8, xF a 0))]) rfl rfl (by decide) (by decide) (fun r_11 u_9 H locs hw_10 hP hD hS => ?_)
      clear hPc hDc
      have hP : va_P D vwCl [(h0, .inr (8, xF a 0)), ((a 9), .inr (6, [.ref (a 23), .int 0, .ref (a 24), .ref (E 7), .int 0, .int 0, .int 0, .int 0]))] H := hP
      have hD : va_D A [(h0, .inr (8, xF a 0)), ((a 9), .inr (6, [.ref (a 23), .int 0, .ref (a 24), .ref (E 7), .int 0, .int 0, .int 0, .int 0]))] := hD
      obtain ⟨hr_11, hw_10⟩ := hw_10
      refine W_top (y := .int 0) (by rw [hr_11]) ?_
      refine lv_istore_n (lv' := [(2, .int 0), (0, .ref h0), (1, .int p0)]) hx hb dX8_rule_29 rfl hl (by decide) rfl (fun ls hl => ?_)
      refine lv_aload_n hx hb dX8_rule_30 rfl (lv_at hl 1 rfl) ?_
      refine va_get (D := D) (ci := 8) (v := .ref (a 9)) (C := RX8) (T := TX8) (N := 14) hx hb htb iX8 hown hK.1 hP 0 rfl rfl 9 (by decide) (htb _ k_281) (fun _ h9 => h9) rfl dX8_rule_31 ?_
      refine lv_iconst (v := 0) hx hb dX8_rule_34 (by decide) ?_
      refine va_putN (D := D) (ci := 6) (v := .int 0) (ty := .int) (C := RX6) (T := TX6) (N := 8) hx hb htb iX6 tyX6 tyX6_ok nmX6 hown hK.1 hP hD hS 1 rfl rfl 1 (by decide) (va_Nw.use rfl (hK.2.1 (Cond.fieldLinkNest RX8 179 "SeaWatches$Tape" "size" "I" "SeaWatches") (by decide +kernel))) (fun _ h9 => h9) rfl (by decide +kernel) rfl rfl (Nat.le_of_ble_eq_true rfl) dX8_rule_35 (fun H locs hP hD hS => ?_)
      have hP : va_P D vwCl [(h0, .inr (8, xF a 0)), ((a 9), .inr (6, [.ref (a 23), .int 0, .ref (a 24), .ref (E 7), .int 0, .int 0, .int 0, .int 0]))] H := hP
      have hD : va_D A [(h0, .inr (8, xF a 0)), ((a 9), .inr (6, [.ref (a 23), .int 0, .ref (a 24), .ref (E 7), .int 0, .int 0, .int 0, .int 0]))] := hD
      refine lv_iload_n hx hb dX8_rule_38 rfl (lv_at hl 0 rfl) ?_
      refine lv_iconst (v := (-1)) hx hb dX8_rule_39 (by decide) ?_
      refine lv_icmp_eq (tgt := 48) hx hb dX8_rule_40 (by decide) (fun c_12 => absurd c_12 (by decide)) (fun c_12 => ?_)
      refine lv_bipush (v := (-100)) hx hb dX8_rule_43 (by decide) ?_
      refine lv_iload_n hx hb dX8_rule_45 rfl (lv_at hl 0 rfl) ?_
      refine lv_isub hx hb dX8_rule_46 ?_
      refine W_top (y := .int (-100)) (by decide) ?_
      have hP9 := hP.sub (ws' := ([] : va_W)) [] rfl
      have hD9 := hD.sub (ws' := ([] : va_W)) [] (by decide) rfl
      exact W.iret (v := (-100)) hx hb hr (fun t ht hW => ⟨⟨(-100), (), rfl, by first | exact Or.inl ⟨rfl, by omega⟩ | (exfalso; omega), by rw [ht]; exact hP9, hD9⟩, hS.F ht⟩) hS.2.2 dX8_rule_47
    ·
      have ic_7 : p0.toInt ≠ 1 := mt (g_eq rfl t_1).mpr c_7
      refine lv_iconst (v := (-1)) hx hb dX8_rule_9 (by decide) ?_
      have hP9 := hP.sub (ws' := ([] : va_W)) [] rfl
      have hD9 := hD.sub (ws' := ([] : va_W)) [] (by decide) rfl
      exact W.iret (v := (-1)) hx hb hr (fun t ht hW => ⟨⟨(-1), (), rfl, by first | exact Or.inr ⟨rfl, by omega⟩ | (exfalso; omega), by rw [ht]; exact hP9, hD9⟩, hS.F ht⟩) hS.2.2 dX8_rule_10
end
section
set_option maxHeartbeats 4000000 in
set_option maxRecDepth 100000 in
theorem c_X3_init (l : Launch) (D : va_G) (E : Nat → Nat) (h0 : Nat) (sz : Nat)  : Met l yX3_init (wl yX3_init cX3_init 1 none) (RM 1 3 180) (mu_P D E [.ref h0] [(h0, .inr (3, [.null, .null, .null, .int 0]))] sz) (va_Qv (fun (u : Nat → Nat) => True) (mu_B D (va_A [(h0, .inr (3, [.null, .null, .null, .int 0]))] sz) (fun (u : Nat → Nat) => ([] : va_W))) (va_A [(h0, .inr (3, [.null, .null, .null, .int 0]))] sz)) 3 180 (va_A [(h0, .inr (3, [.null, .null, .null, .int 0]))] sz) := by
  refine Met.ofW (cc := cX3_init) (maxL := 1) (ret := none) (by decide) rfl ?_
  intro p e s m args below meth c s₁ B hml hv
  obtain ⟨rfl, hsz, hP, hK, hD0⟩ := hv
  have hx := B.exec
  have hb := B.bytes
  have hr := B.returns
  have hts := atoms_spec (ws := wl yX3_init cX3_init 1 none) B.pre
  have htb : ∀ w ∈ tb, w.before _ s = true := fun w h => hts w (List.mem_cons_of_mem _ h)
  have hown : s.vm.findClass RX3 = some m.cls := findClass_of_methodNamed B.named
  have hlocks := B.notSynchronized
  have hin : meth.name = "<init>" := (name_of_methodNamed B.named B.method).1
  subst hsz
  have hD := hD0.self (sz := s.heap.size)
  generalize hAe : va_A [(h0, .inr (3, [.null, .null, .null, .int 0]))] s.heap.size = A at hD ⊢
  have hA : ∀ q : Nat, s.heap.size ≤ q → A q := fun q h => by rw [← hAe]; exact Or.inr h
  have hS : va_S A s.heap s.heap [] := va_S.rf
  have hP : va_P D vwCl [(h0, .inr (3, [.null, .null, .null, .int 0]))] s.heap := hP
  have hl := lv_entry ([.ref h0]) (n := 1) (Nat.le_of_ble_eq_true rfl)
  rw [lg_entry_eq]
  generalize (lg_sl ([.ref h0]) ++ List.replicate (1 - (lg_sl ([.ref h0])).length) Slot.unset).toArray = ls at hl ⊢
  have hl : lv_has ls 1 [(0, .ref h0)] := hl
  refine lv_aload_n hx hb dX3_init_0 rfl (lv_at hl 0 rfl) ?_
  refine W.objInit hx hb hown (htb _ k_60) (htb _ k_22) (htb _ k_23) rfl (by rw [hml]; exact hl.1) rfl dX3_init_1 (Nat.le_of_ble_eq_true rfl) (Nat.le_of_ble_eq_true rfl) ?_
  refine W.eq (g2 := F0 m 4 ls []) rfl ?_
  refine lv_aload_n hx hb dX3_init_4 rfl (lv_at hl 0 rfl) ?_
  refine lv_bipush (v := 60) hx hb dX3_init_5 (by decide) ?_
  refine va_newa (atype := .int) (a0 := (60, .inl (fun _ => 0))) hx hb (htb _ k_54) rfl hK.1 hP hD hS hA (fun cA => nw_i cA) (by decide) (by decide) (by decide) (Nat.le_of_ble_eq_true rfl) (Nat.le_of_ble_eq_true rfl) dX3_init_7 (fun q_1 cA H hK2 hP hD hS => ?_)
  obtain rfl : E 0 = cA := (ka_i (fun C h => by cases h) hK2 0 rfl).symm
  clear hK2
  have hP : va_P D vwCl [(h0, .inr (3, [.null, .null, .null, .int 0])), (q_1, .inl (E 0, 60, .inl (fun _ => 0)))] H := hP
  have hD : va_D A [(h0, .inr (3, [.null, .null, .null, .int 0])), (q_1, .inl (E 0, 60, .inl (fun _ => 0)))] := hD
  refine W.widen (k := 1) (n := 60) (Nat.le_of_ble_eq_true rfl) (Nat.le_of_ble_eq_true rfl) ?_
  refine va_putF (D := D) (ci := 3) (v := .ref q_1) (ty := .array .int) (C := RX3) (T := TX3) (N := 4) hx hb htb iX3 tyX3 tyX3_ok nmX3 hown hK.1 hP hD hS 0 rfl rfl 0 (by decide) (htb _ k_61) (fun _ h9 => h9) rfl hin rfl (by decide +kernel) rfl rfl (Nat.le_of_ble_eq_true rfl) dX3_init_9 (fun H locs hP hD hS => ?_)
  have hP : va_P D vwCl [(h0, .inr (3, [.ref q_1, .null, .null, .int 0])), (q_1, .inl (E 0, 60, .inl (fun _ => 0)))] H := hP
  have hD : va_D A [(h0, .inr (3, [.ref q_1, .null, .null, .int 0])), (q_1, .inl (E 0, 60, .inl (fun _ => 0)))] := hD
  have hP := hP.sub (ws' := [(h0, .inr (3, [.ref q_1, .null, .null, .int 0]))]) [0] rfl
  have hD := hD.sub (ws' := [(h0, .inr (3, [.ref q_1, .null, .null, .int 0]))]) [0] (by decide) rfl
  refine lv_aload_n hx hb dX3_init_12 rfl (lv_at hl 0 rfl) ?_
  refine lv_bipush (v := 60) hx hb dX3_init_13 (by decide) ?_
  refine va_newa (atype := .int) (a0 := (60, .inl (fun _ => 0))) hx hb (htb _ k_54) rfl hK.1 hP hD hS hA (fun cA => nw_i cA) (by decide) (by decide) (by decide) (Nat.le_of_ble_eq_true rfl) (Nat.le_of_ble_eq_true rfl) dX3_init_15 (fun q_2 cA H hK2 hP hD hS => ?_)
  obtain rfl : E 0 = cA := (ka_i (fun C h => by cases h) hK2 0 rfl).symm
  clear hK2
  have hP : va_P D vwCl [(h0, .inr (3, [.ref q_1, .null, .null, .int 0])), (q_2, .inl (E 0, 60, .inl (fun _ => 0)))] H := hP
  have hD : va_D A [(h0, .inr (3, [.ref q_1, .null, .null, .int 0])), (q_2, .inl (E 0, 60, .inl (fun _ => 0)))] := hD
  refine W.widen (k := 2) (n := 120) (Nat.le_of_ble_eq_true rfl) (Nat.le_of_ble_eq_true rfl) ?_
  refine va_putF (D := D) (ci := 3) (v := .ref q_2) (ty := .array .int) (C := RX3) (T := TX3) (N := 4) hx hb htb iX3 tyX3 tyX3_ok nmX3 hown hK.1 hP hD hS 0 rfl rfl 1 (by decide) (htb _ k_63) (fun _ h9 => h9) rfl hin rfl (by decide +kernel) rfl rfl (Nat.le_of_ble_eq_true rfl) dX3_init_17 (fun H locs hP hD hS => ?_)
  have hP : va_P D vwCl [(h0, .inr (3, [.ref q_1, .ref q_2, .null, .int 0])), (q_2, .inl (E 0, 60, .inl (fun _ => 0)))] H := hP
  have hD : va_D A [(h0, .inr (3, [.ref q_1, .ref q_2, .null, .int 0])), (q_2, .inl (E 0, 60, .inl (fun _ => 0)))] := hD
  have hP := hP.sub (ws' := [(h0, .inr (3, [.ref q_1, .ref q_2, .null, .int 0]))]) [0] rfl
  have hD := hD.sub (ws' := [(h0, .inr (3, [.ref q_1, .ref q_2, .null, .int 0]))]) [0] (by decide) rfl
  refine lv_aload_n hx hb dX3_init_20 rfl (lv_at hl 0 rfl) ?_
  refine lv_bipush (v := 60) hx hb dX3_init_21 (by decide) ?_
  refine va_newa (atype := .int) (a0 := (60, .inl (fun _ => 0))) hx hb (htb _ k_54) rfl hK.1 hP hD hS hA (fun cA => nw_i cA) (by decide) (by decide) (by decide) (Nat.le_of_ble_eq_true rfl) (Nat.le_of_ble_eq_true rfl) dX3_init_23 (fun q_3 cA H hK2 hP hD hS => ?_)
  obtain rfl : E 0 = cA := (ka_i (fun C h => by cases h) hK2 0 rfl).symm
  clear hK2
  have hP : va_P D vwCl [(h0, .inr (3, [.ref q_1, .ref q_2, .null, .int 0])), (q_3, .inl (E 0, 60, .inl (fun _ => 0)))] H := hP
  have hD : va_D A [(h0, .inr (3, [.ref q_1, .ref q_2, .null, .int 0])), (q_3, .inl (E 0, 60, .inl (fun _ => 0)))] := hD
  refine W.widen (k := 3) (n := 180) (Nat.le_of_ble_eq_true rfl) (Nat.le_of_ble_eq_true rfl) ?_
  refine va_putF (D := D) (ci := 3) (v := .ref q_3) (ty := .array .int) (C := RX3) (T := TX3) (N := 4) hx hb htb iX3 tyX3 tyX3_ok nmX3 hown hK.1 hP hD hS 0 rfl rfl 2 (by decide) (htb _ k_65) (fun _ h9 => h9) rfl hin rfl (by decide +kernel) rfl rfl (Nat.le_of_ble_eq_true rfl) dX3_init_25 (fun H locs hP hD hS => ?_)
  have hP : va_P D vwCl [(h0, .inr (3, [.ref q_1, .ref q_2, .ref q_3, .int 0])), (q_3, .inl (E 0, 60, .inl (fun _ => 0)))] H := hP
  have hD : va_D A [(h0, .inr (3, [.ref q_1, .ref q_2, .ref q_3, .int 0])), (q_3, .inl (E 0, 60, .inl (fun _ => 0)))] := hD
  have hP := hP.sub (ws' := [(h0, .inr (3, [.ref q_1, .ref q_2, .ref q_3, .int 0]))]) [0] rfl
  have hD := hD.sub (ws' := [(h0, .inr (3, [.ref q_1, .ref q_2, .ref q_3, .int 0]))]) [0] (by decide) rfl
  refine lv_aload_n hx hb dX3_init_28 rfl (lv_at hl 0 rfl) ?_
  refine lv_iconst (v := 0) hx hb dX3_init_29 (by decide) ?_
  refine va_put (D := D) (ci := 3) (v := .int 0) (ty := .int) (C := RX3) (T := TX3) (N := 4) hx hb htb iX3 tyX3 tyX3_ok nmX3 hown hK.1 hP hD hS 0 rfl rfl 3 (by decide) (htb _ k_66) (fun _ h9 => h9) rfl (by decide +kernel) rfl rfl (Nat.le_of_ble_eq_true rfl) dX3_init_30 (fun H locs hP hD hS => ?_)
  have hP : va_P D vwCl [(h0, .inr (3, [.ref q_1, .ref q_2, .ref q_3, .int 0]))] H := hP
  have hD : va_D A [(h0, .inr (3, [.ref q_1, .ref q_2, .ref q_3, .int 0]))] := hD
  have hP9 := hP.sub (ws' := ([] : va_W)) [] rfl
  have hD9 := hD.sub (ws' := ([] : va_W)) [] (by decide) rfl
  exact W.vret hx hb hr (fun t ht hW => ⟨⟨(fun _ => 0), rfl, trivial, by rw [ht]; exact hP9, hD9⟩, hS.F ht⟩) hS.2.2 dX3_init_33
set_option maxHeartbeats 4000000 in
set_option maxRecDepth 100000 in
theorem c_X1_init (l : Launch) (D : va_G) (E : Nat → Nat) (h0 : Nat) (sz : Nat)  : Met l yX1_init (wl yX1_init cX1_init 1 none) (RM 1 0 0) (mu_P D E [.ref h0] [(h0, .inr (1, [.long 0, .long 0, .long 0, .long 0, .long 0, .long 0, .long 0, .long 0, .long 0, .long 0, .long 0, .long 0, .int 0, .long 0, .long 0]))] sz) (va_Qv (fun (u : Nat → Nat) => True) (mu_B D (va_A [(h0, .inr (1, [.long 0, .long 0, .long 0, .long 0, .long 0, .long 0, .long 0, .long 0, .long 0, .long 0, .long 0, .long 0, .int 0, .long 0, .long 0]))] sz) (fun (u : Nat → Nat) => ([] : va_W))) (va_A [(h0, .inr (1, [.long 0, .long 0, .long 0, .long 0, .long 0, .long 0, .long 0, .long 0, .long 0, .long 0, .long 0, .long 0, .int 0, .long 0, .long 0]))] sz)) 0 0 (va_A [(h0, .inr (1, [.long 0, .long 0, .long 0, .long 0, .long 0, .long 0, .long 0, .long 0, .long 0, .long 0, .long 0, .long 0, .int 0, .long 0, .long 0]))] sz) := by
  refine Met.ofW (cc := cX1_init) (maxL := 1) (ret := none) (by decide) rfl ?_
  intro p e s m args below meth c s₁ B hml hv
  obtain ⟨rfl, hsz, hP, hK, hD0⟩ := hv
  have hx := B.exec
  have hb := B.bytes
  have hr := B.returns
  have hts := atoms_spec (ws := wl yX1_init cX1_init 1 none) B.pre
  have htb : ∀ w ∈ tb, w.before _ s = true := fun w h => hts w (List.mem_cons_of_mem _ h)
  have hown : s.vm.findClass RX1 = some m.cls := findClass_of_methodNamed B.named
  have hlocks := B.notSynchronized
  have hin : meth.name = "<init>" := (name_of_methodNamed B.named B.method).1
  subst hsz
  have hD := hD0.self (sz := s.heap.size)
  generalize hAe : va_A [(h0, .inr (1, [.long 0, .long 0, .long 0, .long 0, .long 0, .long 0, .long 0, .long 0, .long 0, .long 0, .long 0, .long 0, .int 0, .long 0, .long 0]))] s.heap.size = A at hD ⊢
  have hA : ∀ q : Nat, s.heap.size ≤ q → A q := fun q h => by rw [← hAe]; exact Or.inr h
  have hS : va_S A s.heap s.heap [] := va_S.rf
  have hP : va_P D vwCl [(h0, .inr (1, [.long 0, .long 0, .long 0, .long 0, .long 0, .long 0, .long 0, .long 0, .long 0, .long 0, .long 0, .long 0, .int 0, .long 0, .long 0]))] s.heap := hP
  have hl := lv_entry ([.ref h0]) (n := 1) (Nat.le_of_ble_eq_true rfl)
  rw [lg_entry_eq]
  generalize (lg_sl ([.ref h0]) ++ List.replicate (1 - (lg_sl ([.ref h0])).length) Slot.unset).toArray = ls at hl ⊢
  have hl : lv_has ls 1 [(0, .ref h0)] := hl
  refine lv_aload_n hx hb dX1_init_0 rfl (lv_at hl 0 rfl) ?_
  refine W.objInit hx hb hown (htb _ k_82) (htb _ k_22) (htb _ k_23) rfl (by rw [hml]; exact hl.1) rfl dX1_init_1 (Nat.le_of_ble_eq_true rfl) (Nat.le_of_ble_eq_true rfl) ?_
  refine W.eq (g2 := F0 m 4 ls []) rfl ?_
  refine lv_aload_n hx hb dX1_init_4 rfl (lv_at hl 0 rfl) ?_
  refine lv_lconst (v := 1) hx hb dX1_init_5 (by decide) ?_
  refine va_put (D := D) (ci := 1) (v := .long 1) (ty := .long) (C := RX1) (T := TX1) (N := 15) hx hb htb iX1 tyX1 tyX1_ok nmX1 hown hK.1 hP hD hS 0 rfl rfl 9 (by decide) (htb _ k_92) (fun _ h9 => h9) rfl (by decide +kernel) rfl rfl (Nat.le_of_ble_eq_true rfl) dX1_init_6 (fun H locs hP hD hS => ?_)
  have hP : va_P D vwCl [(h0, .inr (1, [.long 0, .long 0, .long 0, .long 0, .long 0, .long 0, .long 0, .long 0, .long 0, .long 1, .long 0, .long 0, .int 0, .long 0, .long 0]))] H := hP
  have hD : va_D A [(h0, .inr (1, [.long 0, .long 0, .long 0, .long 0, .long 0, .long 0, .long 0, .long 0, .long 0, .long 1, .long 0, .long 0, .int 0, .long 0, .long 0]))] := hD
  refine lv_aload_n hx hb dX1_init_9 rfl (lv_at hl 0 rfl) ?_
  refine lv_iconst (v := 1) hx hb dX1_init_10 (by decide) ?_
  refine va_put (D := D) (ci := 1) (v := .int 1) (ty := .int) (C := RX1) (T := TX1) (N := 15) hx hb htb iX1 tyX1 tyX1_ok nmX1 hown hK.1 hP hD hS 0 rfl rfl 12 (by decide) (htb _ k_95) (fun _ h9 => h9) rfl (by decide +kernel) rfl rfl (Nat.le_of_ble_eq_true rfl) dX1_init_11 (fun H locs hP hD hS => ?_)
  have hP : va_P D vwCl [(h0, .inr (1, [.long 0, .long 0, .long 0, .long 0, .long 0, .long 0, .long 0, .long 0, .long 0, .long 1, .long 0, .long 0, .int 1, .long 0, .long 0]))] H := hP
  have hD : va_D A [(h0, .inr (1, [.long 0, .long 0, .long 0, .long 0, .long 0, .long 0, .long 0, .long 0, .long 0, .long 1, .long 0, .long 0, .int 1, .long 0, .long 0]))] := hD
  have hP9 := hP.sub (ws' := ([] : va_W)) [] rfl
  have hD9 := hD.sub (ws' := ([] : va_W)) [] (by decide) rfl
  exact W.vret hx hb hr (fun t ht hW => ⟨⟨(fun _ => 0), rfl, trivial, by rw [ht]; exact hP9, hD9⟩, hS.F ht⟩) hS.2.2 dX1_init_14
set_option maxHeartbeats 4000000 in
set_option maxRecDepth 100000 in
theorem c_X4_init (l : Launch) (D : va_G) (E : Nat → Nat) (h0 : Nat) (sz : Nat)  : Met l yX4_init (wl yX4_init cX4_init 1 none) (RM 1 3 360) (mu_P D E [.ref h0] [(h0, .inr (4, [.null, .null, .null, .int 0]))] sz) (va_Qv (fun (u : Nat → Nat) => True) (mu_B D (va_A [(h0, .inr (4, [.null, .null, .null, .int 0]))] sz) (fun (u : Nat → Nat) => [(h0, .inr (4, [.ref (u 0), .ref (u 1), .ref (u 2), .int 0]))])) (va_A [(h0, .inr (4, [.null, .null, .null, .int 0]))] sz)) 3 360 (va_A [(h0, .inr (4, [.null, .null, .null, .int 0]))] sz) := by
  refine Met.ofW (cc := cX4_init) (maxL := 1) (ret := none) (by decide) rfl ?_
  intro p e s m args below meth c s₁ B hml hv
  obtain ⟨rfl, hsz, hP, hK, hD0⟩ := hv
  have hx := B.exec
  have hb := B.bytes
  have hr := B.returns
  have hts := atoms_spec (ws := wl yX4_init cX4_init 1 none) B.pre
  have htb : ∀ w ∈ tb, w.before _ s = true := fun w h => hts w (List.mem_cons_of_mem _ h)
  have hown : s.vm.findClass RX4 = some m.cls := findClass_of_methodNamed B.named
  have hlocks := B.notSynchronized
  have hin : meth.name = "<init>" := (name_of_methodNamed B.named B.method).1
  subst hsz
  have hD := hD0.self (sz := s.heap.size)
  generalize hAe : va_A [(h0, .inr (4, [.null, .null, .null, .int 0]))] s.heap.size = A at hD ⊢
  have hA : ∀ q : Nat, s.heap.size ≤ q → A q := fun q h => by rw [← hAe]; exact Or.inr h
  have hS : va_S A s.heap s.heap [] := va_S.rf
  have hP : va_P D vwCl [(h0, .inr (4, [.null, .null, .null, .int 0]))] s.heap := hP
  have hl := lv_entry ([.ref h0]) (n := 1) (Nat.le_of_ble_eq_true rfl)
  rw [lg_entry_eq]
  generalize (lg_sl ([.ref h0]) ++ List.replicate (1 - (lg_sl ([.ref h0])).length) Slot.unset).toArray = ls at hl ⊢
  have hl : lv_has ls 1 [(0, .ref h0)] := hl
  refine lv_aload_n hx hb dX4_init_0 rfl (lv_at hl 0 rfl) ?_
  refine W.objInit hx hb hown (htb _ k_140) (htb _ k_22) (htb _ k_23) rfl (by rw [hml]; exact hl.1) rfl dX4_init_1 (Nat.le_of_ble_eq_true rfl) (Nat.le_of_ble_eq_true rfl) ?_
  refine W.eq (g2 := F0 m 4 ls []) rfl ?_
  refine lv_aload_n hx hb dX4_init_4 rfl (lv_at hl 0 rfl) ?_
  refine lv_bipush (v := 120) hx hb dX4_init_5 (by decide) ?_
  refine va_newa (atype := .int) (a0 := (120, .inl (fun _ => 0))) hx hb (htb _ k_54) rfl hK.1 hP hD hS hA (fun cA => nw_i cA) (by decide) (by decide) (by decide) (Nat.le_of_ble_eq_true rfl) (Nat.le_of_ble_eq_true rfl) dX4_init_7 (fun q_1 cA H hK2 hP hD hS => ?_)
  obtain rfl : E 0 = cA := (ka_i (fun C h => by cases h) hK2 0 rfl).symm
  clear hK2
  have hP : va_P D vwCl [(h0, .inr (4, [.null, .null, .null, .int 0])), (q_1, .inl (E 0, 120, .inl (fun _ => 0)))] H := hP
  have hD : va_D A [(h0, .inr (4, [.null, .null, .null, .int 0])), (q_1, .inl (E 0, 120, .inl (fun _ => 0)))] := hD
  refine W.widen (k := 1) (n := 120) (Nat.le_of_ble_eq_true rfl) (Nat.le_of_ble_eq_true rfl) ?_
  refine va_putF (D := D) (ci := 4) (v := .ref q_1) (ty := .array .int) (C := RX4) (T := TX4) (N := 4) hx hb htb iX4 tyX4 tyX4_ok nmX4 hown hK.1 hP hD hS 0 rfl rfl 0 (by decide) (htb _ k_141) (fun _ h9 => h9) rfl hin rfl (by decide +kernel) rfl rfl (Nat.le_of_ble_eq_true rfl) dX4_init_9 (fun H locs hP hD hS => ?_)
  have hP : va_P D vwCl [(h0, .inr (4, [.ref q_1, .null, .null, .int 0])), (q_1, .inl (E 0, 120, .inl (fun _ => 0)))] H := hP
  have hD : va_D A [(h0, .inr (4, [.ref q_1, .null, .null, .int 0])), (q_1, .inl (E 0, 120, .inl (fun _ => 0)))] := hD
  have hP := hP.sub (ws' := [(h0, .inr (4, [.ref q_1, .null, .null, .int 0]))]) [0] rfl
  have hD := hD.sub (ws' := [(h0, .inr (4, [.ref q_1, .null, .null, .int 0]))]) [0] (by decide) rfl
  refine lv_aload_n hx hb dX4_init_12 rfl (lv_at hl 0 rfl) ?_
  refine lv_bipush (v := 120) hx hb dX4_init_13 (by decide) ?_
  refine va_newa (atype := .int) (a0 := (120, .inl (fun _ => 0))) hx hb (htb _ k_54) rfl hK.1 hP hD hS hA (fun cA => nw_i cA) (by decide) (by decide) (by decide) (Nat.le_of_ble_eq_true rfl) (Nat.le_of_ble_eq_true rfl) dX4_init_15 (fun q_2 cA H hK2 hP hD hS => ?_)
  obtain rfl : E 0 = cA := (ka_i (fun C h => by cases h) hK2 0 rfl).symm
  clear hK2
  have hP : va_P D vwCl [(h0, .inr (4, [.ref q_1, .null, .null, .int 0])), (q_2, .inl (E 0, 120, .inl (fun _ => 0)))] H := hP
  have hD : va_D A [(h0, .inr (4, [.ref q_1, .null, .null, .int 0])), (q_2, .inl (E 0, 120, .inl (fun _ => 0)))] := hD
  refine W.widen (k := 2) (n := 240) (Nat.le_of_ble_eq_true rfl) (Nat.le_of_ble_eq_true rfl) ?_
  refine va_putF (D := D) (ci := 4) (v := .ref q_2) (ty := .array .int) (C := RX4) (T := TX4) (N := 4) hx hb htb iX4 tyX4 tyX4_ok nmX4 hown hK.1 hP hD hS 0 rfl rfl 1 (by decide) (htb _ k_142) (fun _ h9 => h9) rfl hin rfl (by decide +kernel) rfl rfl (Nat.le_of_ble_eq_true rfl) dX4_init_17 (fun H locs hP hD hS => ?_)
  have hP : va_P D vwCl [(h0, .inr (4, [.ref q_1, .ref q_2, .null, .int 0])), (q_2, .inl (E 0, 120, .inl (fun _ => 0)))] H := hP
  have hD : va_D A [(h0, .inr (4, [.ref q_1, .ref q_2, .null, .int 0])), (q_2, .inl (E 0, 120, .inl (fun _ => 0)))] := hD
  have hP := hP.sub (ws' := [(h0, .inr (4, [.ref q_1, .ref q_2, .null, .int 0]))]) [0] rfl
  have hD := hD.sub (ws' := [(h0, .inr (4, [.ref q_1, .ref q_2, .null, .int 0]))]) [0] (by decide) rfl
  refine lv_aload_n hx hb dX4_init_20 rfl (lv_at hl 0 rfl) ?_
  refine lv_bipush (v := 120) hx hb dX4_init_21 (by decide) ?_
  refine va_newa (atype := .int) (a0 := (120, .inl (fun _ => 0))) hx hb (htb _ k_54) rfl hK.1 hP hD hS hA (fun cA => nw_i cA) (by decide) (by decide) (by decide) (Nat.le_of_ble_eq_true rfl) (Nat.le_of_ble_eq_true rfl) dX4_init_23 (fun q_3 cA H hK2 hP hD hS => ?_)
  obtain rfl : E 0 = cA := (ka_i (fun C h => by cases h) hK2 0 rfl).symm
  clear hK2
  have hP : va_P D vwCl [(h0, .inr (4, [.ref q_1, .ref q_2, .null, .int 0])), (q_3, .inl (E 0, 120, .inl (fun _ => 0)))] H := hP
  have hD : va_D A [(h0, .inr (4, [.ref q_1, .ref q_2, .null, .int 0])), (q_3, .inl (E 0, 120, .inl (fun _ => 0)))] := hD
  refine W.widen (k := 3) (n := 360) (Nat.le_of_ble_eq_true rfl) (Nat.le_of_ble_eq_true rfl) ?_
  refine va_putF (D := D) (ci := 4) (v := .ref q_3) (ty := .array .int) (C := RX4) (T := TX4) (N := 4) hx hb htb iX4 tyX4 tyX4_ok nmX4 hown hK.1 hP hD hS 0 rfl rfl 2 (by decide) (htb _ k_143) (fun _ h9 => h9) rfl hin rfl (by decide +kernel) rfl rfl (Nat.le_of_ble_eq_true rfl) dX4_init_25 (fun H locs hP hD hS => ?_)
  have hP : va_P D vwCl [(h0, .inr (4, [.ref q_1, .ref q_2, .ref q_3, .int 0])), (q_3, .inl (E 0, 120, .inl (fun _ => 0)))] H := hP
  have hD : va_D A [(h0, .inr (4, [.ref q_1, .ref q_2, .ref q_3, .int 0])), (q_3, .inl (E 0, 120, .inl (fun _ => 0)))] := hD
  have hP := hP.sub (ws' := [(h0, .inr (4, [.ref q_1, .ref q_2, .ref q_3, .int 0]))]) [0] rfl
  have hD := hD.sub (ws' := [(h0, .inr (4, [.ref q_1, .ref q_2, .ref q_3, .int 0]))]) [0] (by decide) rfl
  refine lv_aload_n hx hb dX4_init_28 rfl (lv_at hl 0 rfl) ?_
  refine lv_iconst (v := 0) hx hb dX4_init_29 (by decide) ?_
  refine va_put (D := D) (ci := 4) (v := .int 0) (ty := .int) (C := RX4) (T := TX4) (N := 4) hx hb htb iX4 tyX4 tyX4_ok nmX4 hown hK.1 hP hD hS 0 rfl rfl 3 (by decide) (htb _ k_144) (fun _ h9 => h9) rfl (by decide +kernel) rfl rfl (Nat.le_of_ble_eq_true rfl) dX4_init_30 (fun H locs hP hD hS => ?_)
  have hP : va_P D vwCl [(h0, .inr (4, [.ref q_1, .ref q_2, .ref q_3, .int 0]))] H := hP
  have hD : va_D A [(h0, .inr (4, [.ref q_1, .ref q_2, .ref q_3, .int 0]))] := hD
  have hP9 := hP.sub (ws' := [(h0, .inr (4, [.ref q_1, .ref q_2, .ref q_3, .int 0]))]) [0] rfl
  have hD9 := hD.sub (ws' := [(h0, .inr (4, [.ref q_1, .ref q_2, .ref q_3, .int 0]))]) [0] (by decide) rfl
  exact W.vret hx hb hr (fun t ht hW => ⟨⟨(fun k => ([q_1, q_2, q_3] : List Nat).getD k 0), rfl, trivial, by rw [ht]; exact hP9, hD9⟩, hS.F ht⟩) hS.2.2 dX4_init_33
set_option maxHeartbeats 4000000 in
set_option maxRecDepth 100000 in
theorem c_X5_init (l : Launch) (D : va_G) (E : Nat → Nat) (h0 : Nat) (sz : Nat)  : Met l yX5_init (wl yX5_init cX5_init 1 none) (RM 1 7 175) (mu_P D E [.ref h0] [(h0, .inr (5, [.null, .null, .null, .null, .null, .null, .null, .int 0, .int 0, .int 0, .int 0]))] sz) (va_Qv (fun (u : Nat → Nat) => True) (mu_B D (va_A [(h0, .inr (5, [.null, .null, .null, .null, .null, .null, .null, .int 0, .int 0, .int 0, .int 0]))] sz) (fun (u : Nat → Nat) => [(h0, .inr (5, sF u))])) (va_A [(h0, .inr (5, [.null, .null, .null, .null, .null, .null, .null, .int 0, .int 0, .int 0, .int 0]))] sz)) 7 175 (va_A [(h0, .inr (5, [.null, .null, .null, .null, .null, .null, .null, .int 0, .int 0, .int 0, .int 0]))] sz) := by
  refine Met.ofW (cc := cX5_init) (maxL := 1) (ret := none) (by decide) rfl ?_
  intro p e s m args below meth c s₁ B hml hv
  obtain ⟨rfl, hsz, hP, hK, hD0⟩ := hv
  have hx := B.exec
  have hb := B.bytes
  have hr := B.returns
  have hts := atoms_spec (ws := wl yX5_init cX5_init 1 none) B.pre
  have htb : ∀ w ∈ tb, w.before _ s = true := fun w h => hts w (List.mem_cons_of_mem _ h)
  have hown : s.vm.findClass RX5 = some m.cls := findClass_of_methodNamed B.named
  have hlocks := B.notSynchronized
  have hin : meth.name = "<init>" := (name_of_methodNamed B.named B.method).1
  subst hsz
  have hD := hD0.self (sz := s.heap.size)
  generalize hAe : va_A [(h0, .inr (5, [.null, .null, .null, .null, .null, .null, .null, .int 0, .int 0, .int 0, .int 0]))] s.heap.size = A at hD ⊢
  have hA : ∀ q : Nat, s.heap.size ≤ q → A q := fun q h => by rw [← hAe]; exact Or.inr h
  have hS : va_S A s.heap s.heap [] := va_S.rf
  have hP : va_P D vwCl [(h0, .inr (5, [.null, .null, .null, .null, .null, .null, .null, .int 0, .int 0, .int 0, .int 0]))] s.heap := hP
  have hl := lv_entry ([.ref h0]) (n := 1) (Nat.le_of_ble_eq_true rfl)
  rw [lg_entry_eq]
  generalize (lg_sl ([.ref h0]) ++ List.replicate (1 - (lg_sl ([.ref h0])).length) Slot.unset).toArray = ls at hl ⊢
  have hl : lv_has ls 1 [(0, .ref h0)] := hl
  refine lv_aload_n hx hb dX5_init_0 rfl (lv_at hl 0 rfl) ?_
  refine W.objInit hx hb hown (htb _ k_227) (htb _ k_22) (htb _ k_23) rfl (by rw [hml]; exact hl.1) rfl dX5_init_1 (Nat.le_of_ble_eq_true rfl) (Nat.le_of_ble_eq_true rfl) ?_
  refine W.eq (g2 := F0 m 4 ls []) rfl ?_
  refine lv_aload_n hx hb dX5_init_4 rfl (lv_at hl 0 rfl) ?_
  refine lv_iconst (v := 3) hx hb dX5_init_5 (by decide) ?_
  refine va_newa (atype := .int) (a0 := (3, .inl (fun _ => 0))) hx hb (htb _ k_54) rfl hK.1 hP hD hS hA (fun cA => nw_i cA) (by decide) (by decide) (by decide) (Nat.le_of_ble_eq_true rfl) (Nat.le_of_ble_eq_true rfl) dX5_init_6 (fun q_1 cA H hK2 hP hD hS => ?_)
  obtain rfl : E 0 = cA := (ka_i (fun C h => by cases h) hK2 0 rfl).symm
  clear hK2
  have hP : va_P D vwCl [(h0, .inr (5, [.null, .null, .null, .null, .null, .null, .null, .int 0, .int 0, .int 0, .int 0])), (q_1, .inl (E 0, 3, .inl (fun _ => 0)))] H := hP
  have hD : va_D A [(h0, .inr (5, [.null, .null, .null, .null, .null, .null, .null, .int 0, .int 0, .int 0, .int 0])), (q_1, .inl (E 0, 3, .inl (fun _ => 0)))] := hD
  refine W.widen (k := 1) (n := 3) (Nat.le_of_ble_eq_true rfl) (Nat.le_of_ble_eq_true rfl) ?_
  refine va_putF (D := D) (ci := 5) (v := .ref q_1) (ty := .array .int) (C := RX5) (T := TX5) (N := 11) hx hb htb iX5 tyX5 tyX5_ok nmX5 hown hK.1 hP hD hS 0 rfl rfl 0 (by decide) (htb _ k_228) (fun _ h9 => h9) rfl hin rfl (by decide +kernel) rfl rfl (Nat.le_of_ble_eq_true rfl) dX5_init_8 (fun H locs hP hD hS => ?_)
  have hP : va_P D vwCl [(h0, .inr (5, [.ref q_1, .null, .null, .null, .null, .null, .null, .int 0, .int 0, .int 0, .int 0])), (q_1, .inl (E 0, 3, .inl (fun _ => 0)))] H := hP
  have hD : va_D A [(h0, .inr (5, [.ref q_1, .null, .null, .null, .null, .null, .null, .int 0, .int 0, .int 0, .int 0])), (q_1, .inl (E 0, 3, .inl (fun _ => 0)))] := hD
  have hP := hP.sub (ws' := [(h0, .inr (5, [.ref q_1, .null, .null, .null, .null, .null, .null, .int 0, .int 0, .int 0, .int 0]))]) [0] rfl
  have hD := hD.sub (ws' := [(h0, .inr (5, [.ref q_1, .null, .null, .null, .null, .null, .null, .int 0, .int 0, .int 0, .int 0]))]) [0] (by decide) rfl
  refine lv_aload_n hx hb dX5_init_11 rfl (lv_at hl 0 rfl) ?_
  refine lv_iconst (v := 3) hx hb dX5_init_12 (by decide) ?_
  refine va_newa (atype := .int) (a0 := (3, .inl (fun _ => 0))) hx hb (htb _ k_54) rfl hK.1 hP hD hS hA (fun cA => nw_i cA) (by decide) (by decide) (by decide) (Nat.le_of_ble_eq_true rfl) (Nat.le_of_ble_eq_true rfl) dX5_init_13 (fun q_2 cA H hK2 hP hD hS => ?_)
  obtain rfl : E 0 = cA := (ka_i (fun C h => by cases h) hK2 0 rfl).symm
  clear hK2
  have hP : va_P D vwCl [(h0, .inr (5, [.ref q_1, .null, .null, .null, .null, .null, .null, .int 0, .int 0, .int 0, .int 0])), (q_2, .inl (E 0, 3, .inl (fun _ => 0)))] H := hP
  have hD : va_D A [(h0, .inr (5, [.ref q_1, .null, .null, .null, .null, .null, .null, .int 0, .int 0, .int 0, .int 0])), (q_2, .inl (E 0, 3, .inl (fun _ => 0)))] := hD
  refine W.widen (k := 2) (n := 6) (Nat.le_of_ble_eq_true rfl) (Nat.le_of_ble_eq_true rfl) ?_
  refine va_putF (D := D) (ci := 5) (v := .ref q_2) (ty := .array .int) (C := RX5) (T := TX5) (N := 11) hx hb htb iX5 tyX5 tyX5_ok nmX5 hown hK.1 hP hD hS 0 rfl rfl 1 (by decide) (htb _ k_230) (fun _ h9 => h9) rfl hin rfl (by decide +kernel) rfl rfl (Nat.le_of_ble_eq_true rfl) dX5_init_15 (fun H locs hP hD hS => ?_)
  have hP : va_P D vwCl [(h0, .inr (5, [.ref q_1, .ref q_2, .null, .null, .null, .null, .null, .int 0, .int 0, .int 0, .int 0])), (q_2, .inl (E 0, 3, .inl (fun _ => 0)))] H := hP
  have hD : va_D A [(h0, .inr (5, [.ref q_1, .ref q_2, .null, .null, .null, .null, .null, .int 0, .int 0, .int 0, .int 0])), (q_2, .inl (E 0, 3, .inl (fun _ => 0)))] := hD
  have hP := hP.sub (ws' := [(h0, .inr (5, [.ref q_1, .ref q_2, .null, .null, .null, .null, .null, .int 0, .int 0, .int 0, .int 0]))]) [0] rfl
  have hD := hD.sub (ws' := [(h0, .inr (5, [.ref q_1, .ref q_2, .null, .null, .null, .null, .null, .int 0, .int 0, .int 0, .int 0]))]) [0] (by decide) rfl
  refine lv_aload_n hx hb dX5_init_18 rfl (lv_at hl 0 rfl) ?_
  refine lv_iconst (v := 3) hx hb dX5_init_19 (by decide) ?_
  refine va_newa (atype := .int) (a0 := (3, .inl (fun _ => 0))) hx hb (htb _ k_54) rfl hK.1 hP hD hS hA (fun cA => nw_i cA) (by decide) (by decide) (by decide) (Nat.le_of_ble_eq_true rfl) (Nat.le_of_ble_eq_true rfl) dX5_init_20 (fun q_3 cA H hK2 hP hD hS => ?_)
  obtain rfl : E 0 = cA := (ka_i (fun C h => by cases h) hK2 0 rfl).symm
  clear hK2
  have hP : va_P D vwCl [(h0, .inr (5, [.ref q_1, .ref q_2, .null, .null, .null, .null, .null, .int 0, .int 0, .int 0, .int 0])), (q_3, .inl (E 0, 3, .inl (fun _ => 0)))] H := hP
  have hD : va_D A [(h0, .inr (5, [.ref q_1, .ref q_2, .null, .null, .null, .null, .null, .int 0, .int 0, .int 0, .int 0])), (q_3, .inl (E 0, 3, .inl (fun _ => 0)))] := hD
  refine W.widen (k := 3) (n := 9) (Nat.le_of_ble_eq_true rfl) (Nat.le_of_ble_eq_true rfl) ?_
  refine va_putF (D := D) (ci := 5) (v := .ref q_3) (ty := .array .int) (C := RX5) (T := TX5) (N := 11) hx hb htb iX5 tyX5 tyX5_ok nmX5 hown hK.1 hP hD hS 0 rfl rfl 2 (by decide) (htb _ k_232) (fun _ h9 => h9) rfl hin rfl (by decide +kernel) rfl rfl (Nat.le_of_ble_eq_true rfl) dX5_init_22 (fun H locs hP hD hS => ?_)
  have hP : va_P D vwCl [(h0, .inr (5, [.ref q_1, .ref q_2, .ref q_3, .null, .null, .null, .null, .int 0, .int 0, .int 0, .int 0])), (q_3, .inl (E 0, 3, .inl (fun _ => 0)))] H := hP
  have hD : va_D A [(h0, .inr (5, [.ref q_1, .ref q_2, .ref q_3, .null, .null, .null, .null, .int 0, .int 0, .int 0, .int 0])), (q_3, .inl (E 0, 3, .inl (fun _ => 0)))] := hD
  have hP := hP.sub (ws' := [(h0, .inr (5, [.ref q_1, .ref q_2, .ref q_3, .null, .null, .null, .null, .int 0, .int 0, .int 0, .int 0]))]) [0] rfl
  have hD := hD.sub (ws' := [(h0, .inr (5, [.ref q_1, .ref q_2, .ref q_3, .null, .null, .null, .null, .int 0, .int 0, .int 0, .int 0]))]) [0] (by decide) rfl
  refine lv_aload_n hx hb dX5_init_25 rfl (lv_at hl 0 rfl) ?_
  refine lv_iconst (v := 3) hx hb dX5_init_26 (by decide) ?_
  refine va_newa (atype := .int) (a0 := (3, .inl (fun _ => 0))) hx hb (htb _ k_54) rfl hK.1 hP hD hS hA (fun cA => nw_i cA) (by decide) (by decide) (by decide) (Nat.le_of_ble_eq_true rfl) (Nat.le_of_ble_eq_true rfl) dX5_init_27 (fun q_4 cA H hK2 hP hD hS => ?_)
  obtain rfl : E 0 = cA := (ka_i (fun C h => by cases h) hK2 0 rfl).symm
  clear hK2
  have hP : va_P D vwCl [(h0, .inr (5, [.ref q_1, .ref q_2, .ref q_3, .null, .null, .null, .null, .int 0, .int 0, .int 0, .int 0])), (q_4, .inl (E 0, 3, .inl (fun _ => 0)))] H := hP
  have hD : va_D A [(h0, .inr (5, [.ref q_1, .ref q_2, .ref q_3, .null, .null, .null, .null, .int 0, .int 0, .int 0, .int 0])), (q_4, .inl (E 0, 3, .inl (fun _ => 0)))] := hD
  refine W.widen (k := 4) (n := 12) (Nat.le_of_ble_eq_true rfl) (Nat.le_of_ble_eq_true rfl) ?_
  refine va_putF (D := D) (ci := 5) (v := .ref q_4) (ty := .array .int) (C := RX5) (T := TX5) (N := 11) hx hb htb iX5 tyX5 tyX5_ok nmX5 hown hK.1 hP hD hS 0 rfl rfl 3 (by decide) (htb _ k_234) (fun _ h9 => h9) rfl hin rfl (by decide +kernel) rfl rfl (Nat.le_of_ble_eq_true rfl) dX5_init_29 (fun H locs hP hD hS => ?_)
  have hP : va_P D vwCl [(h0, .inr (5, [.ref q_1, .ref q_2, .ref q_3, .ref q_4, .null, .null, .null, .int 0, .int 0, .int 0, .int 0])), (q_4, .inl (E 0, 3, .inl (fun _ => 0)))] H := hP
  have hD : va_D A [(h0, .inr (5, [.ref q_1, .ref q_2, .ref q_3, .ref q_4, .null, .null, .null, .int 0, .int 0, .int 0, .int 0])), (q_4, .inl (E 0, 3, .inl (fun _ => 0)))] := hD
  have hP := hP.sub (ws' := [(h0, .inr (5, [.ref q_1, .ref q_2, .ref q_3, .ref q_4, .null, .null, .null, .int 0, .int 0, .int 0, .int 0]))]) [0] rfl
  have hD := hD.sub (ws' := [(h0, .inr (5, [.ref q_1, .ref q_2, .ref q_3, .ref q_4, .null, .null, .null, .int 0, .int 0, .int 0, .int 0]))]) [0] (by decide) rfl
  refine lv_aload_n hx hb dX5_init_32 rfl (lv_at hl 0 rfl) ?_
  refine lv_iconst (v := 3) hx hb dX5_init_33 (by decide) ?_
  refine va_newa (atype := .int) (a0 := (3, .inl (fun _ => 0))) hx hb (htb _ k_54) rfl hK.1 hP hD hS hA (fun cA => nw_i cA) (by decide) (by decide) (by decide) (Nat.le_of_ble_eq_true rfl) (Nat.le_of_ble_eq_true rfl) dX5_init_34 (fun q_5 cA H hK2 hP hD hS => ?_)
  obtain rfl : E 0 = cA := (ka_i (fun C h => by cases h) hK2 0 rfl).symm
  clear hK2
  have hP : va_P D vwCl [(h0, .inr (5, [.ref q_1, .ref q_2, .ref q_3, .ref q_4, .null, .null, .null, .int 0, .int 0, .int 0, .int 0])), (q_5, .inl (E 0, 3, .inl (fun _ => 0)))] H := hP
  have hD : va_D A [(h0, .inr (5, [.ref q_1, .ref q_2, .ref q_3, .ref q_4, .null, .null, .null, .int 0, .int 0, .int 0, .int 0])), (q_5, .inl (E 0, 3, .inl (fun _ => 0)))] := hD
  refine W.widen (k := 5) (n := 15) (Nat.le_of_ble_eq_true rfl) (Nat.le_of_ble_eq_true rfl) ?_
  refine va_putF (D := D) (ci := 5) (v := .ref q_5) (ty := .array .int) (C := RX5) (T := TX5) (N := 11) hx hb htb iX5 tyX5 tyX5_ok nmX5 hown hK.1 hP hD hS 0 rfl rfl 4 (by decide) (htb _ k_236) (fun _ h9 => h9) rfl hin rfl (by decide +kernel) rfl rfl (Nat.le_of_ble_eq_true rfl) dX5_init_36 (fun H locs hP hD hS => ?_)
  have hP : va_P D vwCl [(h0, .inr (5, [.ref q_1, .ref q_2, .ref q_3, .ref q_4, .ref q_5, .null, .null, .int 0, .int 0, .int 0, .int 0])), (q_5, .inl (E 0, 3, .inl (fun _ => 0)))] H := hP
  have hD : va_D A [(h0, .inr (5, [.ref q_1, .ref q_2, .ref q_3, .ref q_4, .ref q_5, .null, .null, .int 0, .int 0, .int 0, .int 0])), (q_5, .inl (E 0, 3, .inl (fun _ => 0)))] := hD
  have hP := hP.sub (ws' := [(h0, .inr (5, [.ref q_1, .ref q_2, .ref q_3, .ref q_4, .ref q_5, .null, .null, .int 0, .int 0, .int 0, .int 0]))]) [0] rfl
  have hD := hD.sub (ws' := [(h0, .inr (5, [.ref q_1, .ref q_2, .ref q_3, .ref q_4, .ref q_5, .null, .null, .int 0, .int 0, .int 0, .int 0]))]) [0] (by decide) rfl
  refine lv_aload_n hx hb dX5_init_39 rfl (lv_at hl 0 rfl) ?_
  refine lv_bipush (v := 40) hx hb dX5_init_40 (by decide) ?_
  refine va_newa (atype := .int) (a0 := (40, .inl (fun _ => 0))) hx hb (htb _ k_54) rfl hK.1 hP hD hS hA (fun cA => nw_i cA) (by decide) (by decide) (by decide) (Nat.le_of_ble_eq_true rfl) (Nat.le_of_ble_eq_true rfl) dX5_init_42 (fun q_6 cA H hK2 hP hD hS => ?_)
  obtain rfl : E 0 = cA := (ka_i (fun C h => by cases h) hK2 0 rfl).symm
  clear hK2
  have hP : va_P D vwCl [(h0, .inr (5, [.ref q_1, .ref q_2, .ref q_3, .ref q_4, .ref q_5, .null, .null, .int 0, .int 0, .int 0, .int 0])), (q_6, .inl (E 0, 40, .inl (fun _ => 0)))] H := hP
  have hD : va_D A [(h0, .inr (5, [.ref q_1, .ref q_2, .ref q_3, .ref q_4, .ref q_5, .null, .null, .int 0, .int 0, .int 0, .int 0])), (q_6, .inl (E 0, 40, .inl (fun _ => 0)))] := hD
  refine W.widen (k := 6) (n := 55) (Nat.le_of_ble_eq_true rfl) (Nat.le_of_ble_eq_true rfl) ?_
  refine va_putF (D := D) (ci := 5) (v := .ref q_6) (ty := .array .int) (C := RX5) (T := TX5) (N := 11) hx hb htb iX5 tyX5 tyX5_ok nmX5 hown hK.1 hP hD hS 0 rfl rfl 5 (by decide) (htb _ k_238) (fun _ h9 => h9) rfl hin rfl (by decide +kernel) rfl rfl (Nat.le_of_ble_eq_true rfl) dX5_init_44 (fun H locs hP hD hS => ?_)
  have hP : va_P D vwCl [(h0, .inr (5, [.ref q_1, .ref q_2, .ref q_3, .ref q_4, .ref q_5, .ref q_6, .null, .int 0, .int 0, .int 0, .int 0])), (q_6, .inl (E 0, 40, .inl (fun _ => 0)))] H := hP
  have hD : va_D A [(h0, .inr (5, [.ref q_1, .ref q_2, .ref q_3, .ref q_4, .ref q_5, .ref q_6, .null, .int 0, .int 0, .int 0, .int 0])), (q_6, .inl (E 0, 40, .inl (fun _ => 0)))] := hD
  have hP := hP.sub (ws' := [(h0, .inr (5, [.ref q_1, .ref q_2, .ref q_3, .ref q_4, .ref q_5, .ref q_6, .null, .int 0, .int 0, .int 0, .int 0]))]) [0] rfl
  have hD := hD.sub (ws' := [(h0, .inr (5, [.ref q_1, .ref q_2, .ref q_3, .ref q_4, .ref q_5, .ref q_6, .null, .int 0, .int 0, .int 0, .int 0]))]) [0] (by decide) rfl
  refine lv_aload_n hx hb dX5_init_47 rfl (lv_at hl 0 rfl) ?_
  refine lv_bipush (v := 120) hx hb dX5_init_48 (by decide) ?_
  refine va_newa (atype := .int) (a0 := (120, .inl (fun _ => 0))) hx hb (htb _ k_54) rfl hK.1 hP hD hS hA (fun cA => nw_i cA) (by decide) (by decide) (by decide) (Nat.le_of_ble_eq_true rfl) (Nat.le_of_ble_eq_true rfl) dX5_init_50 (fun q_7 cA H hK2 hP hD hS => ?_)
  obtain rfl : E 0 = cA := (ka_i (fun C h => by cases h) hK2 0 rfl).symm
  clear hK2
  have hP : va_P D vwCl [(h0, .inr (5, [.ref q_1, .ref q_2, .ref q_3, .ref q_4, .ref q_5, .ref q_6, .null, .int 0, .int 0, .int 0, .int 0])), (q_7, .inl (E 0, 120, .inl (fun _ => 0)))] H := hP
  have hD : va_D A [(h0, .inr (5, [.ref q_1, .ref q_2, .ref q_3, .ref q_4, .ref q_5, .ref q_6, .null, .int 0, .int 0, .int 0, .int 0])), (q_7, .inl (E 0, 120, .inl (fun _ => 0)))] := hD
  refine W.widen (k := 7) (n := 175) (Nat.le_of_ble_eq_true rfl) (Nat.le_of_ble_eq_true rfl) ?_
  refine va_putF (D := D) (ci := 5) (v := .ref q_7) (ty := .array .int) (C := RX5) (T := TX5) (N := 11) hx hb htb iX5 tyX5 tyX5_ok nmX5 hown hK.1 hP hD hS 0 rfl rfl 6 (by decide) (htb _ k_240) (fun _ h9 => h9) rfl hin rfl (by decide +kernel) rfl rfl (Nat.le_of_ble_eq_true rfl) dX5_init_52 (fun H locs hP hD hS => ?_)
  have hP : va_P D vwCl [(h0, .inr (5, [.ref q_1, .ref q_2, .ref q_3, .ref q_4, .ref q_5, .ref q_6, .ref q_7, .int 0, .int 0, .int 0, .int 0])), (q_7, .inl (E 0, 120, .inl (fun _ => 0)))] H := hP
  have hD : va_D A [(h0, .inr (5, [.ref q_1, .ref q_2, .ref q_3, .ref q_4, .ref q_5, .ref q_6, .ref q_7, .int 0, .int 0, .int 0, .int 0])), (q_7, .inl (E 0, 120, .inl (fun _ => 0)))] := hD
  have hP := hP.sub (ws' := [(h0, .inr (5, [.ref q_1, .ref q_2, .ref q_3, .ref q_4, .ref q_5, .ref q_6, .ref q_7, .int 0, .int 0, .int 0, .int 0]))]) [0] rfl
  have hD := hD.sub (ws' := [(h0, .inr (5, [.ref q_1, .ref q_2, .ref q_3, .ref q_4, .ref q_5, .ref q_6, .ref q_7, .int 0, .int 0, .int 0, .int 0]))]) [0] (by decide) rfl
  refine lv_aload_n hx hb dX5_init_55 rfl (lv_at hl 0 rfl) ?_
  refine lv_iconst (v := 0) hx hb dX5_init_56 (by decide) ?_
  refine va_put (D := D) (ci := 5) (v := .int 0) (ty := .int) (C := RX5) (T := TX5) (N := 11) hx hb htb iX5 tyX5 tyX5_ok nmX5 hown hK.1 hP hD hS 0 rfl rfl 7 (by decide) (htb _ k_241) (fun _ h9 => h9) rfl (by decide +kernel) rfl rfl (Nat.le_of_ble_eq_true rfl) dX5_init_57 (fun H locs hP hD hS => ?_)
  have hP : va_P D vwCl [(h0, .inr (5, [.ref q_1, .ref q_2, .ref q_3, .ref q_4, .ref q_5, .ref q_6, .ref q_7, .int 0, .int 0, .int 0, .int 0]))] H := hP
  have hD : va_D A [(h0, .inr (5, [.ref q_1, .ref q_2, .ref q_3, .ref q_4, .ref q_5, .ref q_6, .ref q_7, .int 0, .int 0, .int 0, .int 0]))] := hD
  refine lv_aload_n hx hb dX5_init_60 rfl (lv_at hl 0 rfl) ?_
  refine lv_iconst (v := 0) hx hb dX5_init_61 (by decide) ?_
  refine va_put (D := D) (ci := 5) (v := .int 0) (ty := .int) (C := RX5) (T := TX5) (N := 11) hx hb htb iX5 tyX5 tyX5_ok nmX5 hown hK.1 hP hD hS 0 rfl rfl 8 (by decide) (htb _ k_243) (fun _ h9 => h9) rfl (by decide +kernel) rfl rfl (Nat.le_of_ble_eq_true rfl) dX5_init_62 (fun H locs hP hD hS => ?_)
  have hP : va_P D vwCl [(h0, .inr (5, [.ref q_1, .ref q_2, .ref q_3, .ref q_4, .ref q_5, .ref q_6, .ref q_7, .int 0, .int 0, .int 0, .int 0]))] H := hP
  have hD : va_D A [(h0, .inr (5, [.ref q_1, .ref q_2, .ref q_3, .ref q_4, .ref q_5, .ref q_6, .ref q_7, .int 0, .int 0, .int 0, .int 0]))] := hD
  refine lv_aload_n hx hb dX5_init_65 rfl (lv_at hl 0 rfl) ?_
  refine lv_iconst (v := 0) hx hb dX5_init_66 (by decide) ?_
  refine va_put (D := D) (ci := 5) (v := .int 0) (ty := .int) (C := RX5) (T := TX5) (N := 11) hx hb htb iX5 tyX5 tyX5_ok nmX5 hown hK.1 hP hD hS 0 rfl rfl 9 (by decide) (htb _ k_245) (fun _ h9 => h9) rfl (by decide +kernel) rfl rfl (Nat.le_of_ble_eq_true rfl) dX5_init_67 (fun H locs hP hD hS => ?_)
  have hP : va_P D vwCl [(h0, .inr (5, [.ref q_1, .ref q_2, .ref q_3, .ref q_4, .ref q_5, .ref q_6, .ref q_7, .int 0, .int 0, .int 0, .int 0]))] H := hP
  have hD : va_D A [(h0, .inr (5, [.ref q_1, .ref q_2, .ref q_3, .ref q_4, .ref q_5, .ref q_6, .ref q_7, .int 0, .int 0, .int 0, .int 0]))] := hD
  refine lv_aload_n hx hb dX5_init_70 rfl (lv_at hl 0 rfl) ?_
  refine lv_iconst (v := 0) hx hb dX5_init_71 (by decide) ?_
  refine va_put (D := D) (ci := 5) (v := .int 0) (ty := .int) (C := RX5) (T := TX5) (N := 11) hx hb htb iX5 tyX5 tyX5_ok nmX5 hown hK.1 hP hD hS 0 rfl rfl 10 (by decide) (htb _ k_247) (fun _ h9 => h9) rfl (by decide +kernel) rfl rfl (Nat.le_of_ble_eq_true rfl) dX5_init_72 (fun H locs hP hD hS => ?_)
  have hP : va_P D vwCl [(h0, .inr (5, [.ref q_1, .ref q_2, .ref q_3, .ref q_4, .ref q_5, .ref q_6, .ref q_7, .int 0, .int 0, .int 0, .int 0]))] H := hP
  have hD : va_D A [(h0, .inr (5, [.ref q_1, .ref q_2, .ref q_3, .ref q_4, .ref q_5, .ref q_6, .ref q_7, .int 0, .int 0, .int 0, .int 0]))] := hD
  have hP9 := hP.sub (ws' := [(h0, .inr (5, [.ref q_1, .ref q_2, .ref q_3, .ref q_4, .ref q_5, .ref q_6, .ref q_7, .int 0, .int 0, .int 0, .int 0]))]) [0] rfl
  have hD9 := hD.sub (ws' := [(h0, .inr (5, [.ref q_1, .ref q_2, .ref q_3, .ref q_4, .ref q_5, .ref q_6, .ref q_7, .int 0, .int 0, .int 0, .int 0]))]) [0] (by decide) rfl
  exact W.vret hx hb hr (fun t ht hW => ⟨⟨(fun k => ([q_1, q_2, q_3, q_4, q_5, q_6, q_7] : List Nat).getD k 0), rfl, trivial, by rw [ht]; exact hP9, hD9⟩, hS.F ht⟩) hS.2.2 dX5_init_75
set_option maxHeartbeats 4000000 in
set_option maxRecDepth 100000 in
theorem c_X2_init (l : Launch) (D : va_G) (E : Nat → Nat) (h0 : Nat) (sz : Nat)  : Met l yX2_init (wl yX2_init cX2_init 1 none) (RM 1 5 300) (mu_P D E [.ref h0] [(h0, .inr (2, [.null, .null, .null, .null, .null, .int 0]))] sz) (va_Qv (fun (u : Nat → Nat) => True) (mu_B D (va_A [(h0, .inr (2, [.null, .null, .null, .null, .null, .int 0]))] sz) (fun (u : Nat → Nat) => [(h0, .inr (2, [.ref (u 0), .ref (u 1), .ref (u 2), .ref (u 3), .ref (u 4), .int 0])), ((u 0), .inl (E 0, 60, .inl (fun _ => 0))), ((u 1), .inl (E 0, 60, .inl (fun _ => 0))), ((u 2), .inl (E 0, 60, .inl (fun _ => 0))), ((u 3), .inl (E 0, 60, .inl (fun _ => 0))), ((u 4), .inl (E 0, 60, .inl (fun _ => 0)))])) (va_A [(h0, .inr (2, [.null, .null, .null, .null, .null, .int 0]))] sz)) 5 300 (va_A [(h0, .inr (2, [.null, .null, .null, .null, .null, .int 0]))] sz) := by
  refine Met.ofW (cc := cX2_init) (maxL := 1) (ret := none) (by decide) rfl ?_
  intro p e s m args below meth c s₁ B hml hv
  obtain ⟨rfl, hsz, hP, hK, hD0⟩ := hv
  have hx := B.exec
  have hb := B.bytes
  have hr := B.returns
  have hts := atoms_spec (ws := wl yX2_init cX2_init 1 none) B.pre
  have htb : ∀ w ∈ tb, w.before _ s = true := fun w h => hts w (List.mem_cons_of_mem _ h)
  have hown : s.vm.findClass RX2 = some m.cls := findClass_of_methodNamed B.named
  have hlocks := B.notSynchronized
  have hin : meth.name = "<init>" := (name_of_methodNamed B.named B.method).1
  subst hsz
  have hD := hD0.self (sz := s.heap.size)
  generalize hAe : va_A [(h0, .inr (2, [.null, .null, .null, .null, .null, .int 0]))] s.heap.size = A at hD ⊢
  have hA : ∀ q : Nat, s.heap.size ≤ q → A q := fun q h => by rw [← hAe]; exact Or.inr h
  have hS : va_S A s.heap s.heap [] := va_S.rf
  have hP : va_P D vwCl [(h0, .inr (2, [.null, .null, .null, .null, .null, .int 0]))] s.heap := hP
  have hl := lv_entry ([.ref h0]) (n := 1) (Nat.le_of_ble_eq_true rfl)
  rw [lg_entry_eq]
  generalize (lg_sl ([.ref h0]) ++ List.replicate (1 - (lg_sl ([.ref h0])).length) Slot.unset).toArray = ls at hl ⊢
  have hl : lv_has ls 1 [(0, .ref h0)] := hl
  refine lv_aload_n hx hb dX2_init_0 rfl (lv_at hl 0 rfl) ?_
  refine W.objInit hx hb hown (htb _ k_33) (htb _ k_22) (htb _ k_23) rfl (by rw [hml]; exact hl.1) rfl dX2_init_1 (Nat.le_of_ble_eq_true rfl) (Nat.le_of_ble_eq_true rfl) ?_
  refine W.eq (g2 := F0 m 4 ls []) rfl ?_
  refine lv_aload_n hx hb dX2_init_4 rfl (lv_at hl 0 rfl) ?_
  refine lv_bipush (v := 60) hx hb dX2_init_5 (by decide) ?_
  refine va_newa (atype := .int) (a0 := (60, .inl (fun _ => 0))) hx hb (htb _ k_54) rfl hK.1 hP hD hS hA (fun cA => nw_i cA) (by decide) (by decide) (by decide) (Nat.le_of_ble_eq_true rfl) (Nat.le_of_ble_eq_true rfl) dX2_init_7 (fun q_1 cA H hK2 hP hD hS => ?_)
  obtain rfl : E 0 = cA := (ka_i (fun C h => by cases h) hK2 0 rfl).symm
  clear hK2
  have hP : va_P D vwCl [(h0, .inr (2, [.null, .null, .null, .null, .null, .int 0])), (q_1, .inl (E 0, 60, .inl (fun _ => 0)))] H := hP
  have hD : va_D A [(h0, .inr (2, [.null, .null, .null, .null, .null, .int 0])), (q_1, .inl (E 0, 60, .inl (fun _ => 0)))] := hD
  refine W.widen (k := 1) (n := 60) (Nat.le_of_ble_eq_true rfl) (Nat.le_of_ble_eq_true rfl) ?_
  refine va_putF (D := D) (ci := 2) (v := .ref q_1) (ty := .array .int) (C := RX2) (T := TX2) (N := 6) hx hb htb iX2 tyX2 tyX2_ok nmX2 hown hK.1 hP hD hS 0 rfl rfl 0 (by decide) (htb _ k_34) (fun _ h9 => h9) rfl hin rfl (by decide +kernel) rfl rfl (Nat.le_of_ble_eq_true rfl) dX2_init_9 (fun H locs hP hD hS => ?_)
  have hP : va_P D vwCl [(h0, .inr (2, [.ref q_1, .null, .null, .null, .null, .int 0])), (q_1, .inl (E 0, 60, .inl (fun _ => 0)))] H := hP
  have hD : va_D A [(h0, .inr (2, [.ref q_1, .null, .null, .null, .null, .int 0])), (q_1, .inl (E 0, 60, .inl (fun _ => 0)))] := hD
  refine lv_aload_n hx hb dX2_init_12 rfl (lv_at hl 0 rfl) ?_
  refine lv_bipush (v := 60) hx hb dX2_init_13 (by decide) ?_
  refine va_newa (atype := .int) (a0 := (60, .inl (fun _ => 0))) hx hb (htb _ k_54) rfl hK.1 hP hD hS hA (fun cA => nw_i cA) (by decide) (by decide) (by decide) (Nat.le_of_ble_eq_true rfl) (Nat.le_of_ble_eq_true rfl) dX2_init_15 (fun q_2 cA H hK2 hP hD hS => ?_)
  obtain rfl : E 0 = cA := (ka_i (fun C h => by cases h) hK2 0 rfl).symm
  clear hK2
  have hP : va_P D vwCl [(h0, .inr (2, [.ref q_1, .null, .null, .null, .null, .int 0])), (q_1, .inl (E 0, 60, .inl (fun _ => 0))), (q_2, .inl (E 0, 60, .inl (fun _ => 0)))] H := hP
  have hD : va_D A [(h0, .inr (2, [.ref q_1, .null, .null, .null, .null, .int 0])), (q_1, .inl (E 0, 60, .inl (fun _ => 0))), (q_2, .inl (E 0, 60, .inl (fun _ => 0)))] := hD
  refine W.widen (k := 2) (n := 120) (Nat.le_of_ble_eq_true rfl) (Nat.le_of_ble_eq_true rfl) ?_
  refine va_putF (D := D) (ci := 2) (v := .ref q_2) (ty := .array .int) (C := RX2) (T := TX2) (N := 6) hx hb htb iX2 tyX2 tyX2_ok nmX2 hown hK.1 hP hD hS 0 rfl rfl 1 (by decide) (htb _ k_35) (fun _ h9 => h9) rfl hin rfl (by decide +kernel) rfl rfl (Nat.le_of_ble_eq_true rfl) dX2_init_17 (fun H locs hP hD hS => ?_)
  have hP : va_P D vwCl [(h0, .inr (2, [.ref q_1, .ref q_2, .null, .null, .null, .int 0])), (q_1, .inl (E 0, 60, .inl (fun _ => 0))), (q_2, .inl (E 0, 60, .inl (fun _ => 0)))] H := hP
  have hD : va_D A [(h0, .inr (2, [.ref q_1, .ref q_2, .null, .null, .null, .int 0])), (q_1, .inl (E 0, 60, .inl (fun _ => 0))), (q_2, .inl (E 0, 60, .inl (fun _ => 0)))] := hD
  refine lv_aload_n hx hb dX2_init_20 rfl (lv_at hl 0 rfl) ?_
  refine lv_bipush (v := 60) hx hb dX2_init_21 (by decide) ?_
  refine va_newa (atype := .int) (a0 := (60, .inl (fun _ => 0))) hx hb (htb _ k_54) rfl hK.1 hP hD hS hA (fun cA => nw_i cA) (by decide) (by decide) (by decide) (Nat.le_of_ble_eq_true rfl) (Nat.le_of_ble_eq_true rfl) dX2_init_23 (fun q_3 cA H hK2 hP hD hS => ?_)
  obtain rfl : E 0 = cA := (ka_i (fun C h => by cases h) hK2 0 rfl).symm
  clear hK2
  have hP : va_P D vwCl [(h0, .inr (2, [.ref q_1, .ref q_2, .null, .null, .null, .int 0])), (q_1, .inl (E 0, 60, .inl (fun _ => 0))), (q_2, .inl (E 0, 60, .inl (fun _ => 0))), (q_3, .inl (E 0, 60, .inl (fun _ => 0)))] H := hP
  have hD : va_D A [(h0, .inr (2, [.ref q_1, .ref q_2, .null, .null, .null, .int 0])), (q_1, .inl (E 0, 60, .inl (fun _ => 0))), (q_2, .inl (E 0, 60, .inl (fun _ => 0))), (q_3, .inl (E 0, 60, .inl (fun _ => 0)))] := hD
  refine W.widen (k := 3) (n := 180) (Nat.le_of_ble_eq_true rfl) (Nat.le_of_ble_eq_true rfl) ?_
  refine va_putF (D := D) (ci := 2) (v := .ref q_3) (ty := .array .int) (C := RX2) (T := TX2) (N := 6) hx hb htb iX2 tyX2 tyX2_ok nmX2 hown hK.1 hP hD hS 0 rfl rfl 2 (by decide) (htb _ k_36) (fun _ h9 => h9) rfl hin rfl (by decide +kernel) rfl rfl (Nat.le_of_ble_eq_true rfl) dX2_init_25 (fun H locs hP hD hS => ?_)
  have hP : va_P D vwCl [(h0, .inr (2, [.ref q_1, .ref q_2, .ref q_3, .null, .null, .int 0])), (q_1, .inl (E 0, 60, .inl (fun _ => 0))), (q_2, .inl (E 0, 60, .inl (fun _ => 0))), (q_3, .inl (E 0, 60, .inl (fun _ => 0)))] H := hP
  have hD : va_D A [(h0, .inr (2, [.ref q_1, .ref q_2, .ref q_3, .null, .null, .int 0])), (q_1, .inl (E 0, 60, .inl (fun _ => 0))), (q_2, .inl (E 0, 60, .inl (fun _ => 0))), (q_3, .inl (E 0, 60, .inl (fun _ => 0)))] := hD
  refine lv_aload_n hx hb dX2_init_28 rfl (lv_at hl 0 rfl) ?_
  refine lv_bipush (v := 60) hx hb dX2_init_29 (by decide) ?_
  refine va_newa (atype := .int) (a0 := (60, .inl (fun _ => 0))) hx hb (htb _ k_54) rfl hK.1 hP hD hS hA (fun cA => nw_i cA) (by decide) (by decide) (by decide) (Nat.le_of_ble_eq_true rfl) (Nat.le_of_ble_eq_true rfl) dX2_init_31 (fun q_4 cA H hK2 hP hD hS => ?_)
  obtain rfl : E 0 = cA := (ka_i (fun C h => by cases h) hK2 0 rfl).symm
  clear hK2
  have hP : va_P D vwCl [(h0, .inr (2, [.ref q_1, .ref q_2, .ref q_3, .null, .null, .int 0])), (q_1, .inl (E 0, 60, .inl (fun _ => 0))), (q_2, .inl (E 0, 60, .inl (fun _ => 0))), (q_3, .inl (E 0, 60, .inl (fun _ => 0))), (q_4, .inl (E 0, 60, .inl (fun _ => 0)))] H := hP
  have hD : va_D A [(h0, .inr (2, [.ref q_1, .ref q_2, .ref q_3, .null, .null, .int 0])), (q_1, .inl (E 0, 60, .inl (fun _ => 0))), (q_2, .inl (E 0, 60, .inl (fun _ => 0))), (q_3, .inl (E 0, 60, .inl (fun _ => 0))), (q_4, .inl (E 0, 60, .inl (fun _ => 0)))] := hD
  refine W.widen (k := 4) (n := 240) (Nat.le_of_ble_eq_true rfl) (Nat.le_of_ble_eq_true rfl) ?_
  refine va_putF (D := D) (ci := 2) (v := .ref q_4) (ty := .array .int) (C := RX2) (T := TX2) (N := 6) hx hb htb iX2 tyX2 tyX2_ok nmX2 hown hK.1 hP hD hS 0 rfl rfl 3 (by decide) (htb _ k_37) (fun _ h9 => h9) rfl hin rfl (by decide +kernel) rfl rfl (Nat.le_of_ble_eq_true rfl) dX2_init_33 (fun H locs hP hD hS => ?_)
  have hP : va_P D vwCl [(h0, .inr (2, [.ref q_1, .ref q_2, .ref q_3, .ref q_4, .null, .int 0])), (q_1, .inl (E 0, 60, .inl (fun _ => 0))), (q_2, .inl (E 0, 60, .inl (fun _ => 0))), (q_3, .inl (E 0, 60, .inl (fun _ => 0))), (q_4, .inl (E 0, 60, .inl (fun _ => 0)))] H := hP
  have hD : va_D A [(h0, .inr (2, [.ref q_1, .ref q_2, .ref q_3, .ref q_4, .null, .int 0])), (q_1, .inl (E 0, 60, .inl (fun _ => 0))), (q_2, .inl (E 0, 60, .inl (fun _ => 0))), (q_3, .inl (E 0, 60, .inl (fun _ => 0))), (q_4, .inl (E 0, 60, .inl (fun _ => 0)))] := hD
  refine lv_aload_n hx hb dX2_init_36 rfl (lv_at hl 0 rfl) ?_
  refine lv_bipush (v := 60) hx hb dX2_init_37 (by decide) ?_
  refine va_newa (atype := .int) (a0 := (60, .inl (fun _ => 0))) hx hb (htb _ k_54) rfl hK.1 hP hD hS hA (fun cA => nw_i cA) (by decide) (by decide) (by decide) (Nat.le_of_ble_eq_true rfl) (Nat.le_of_ble_eq_true rfl) dX2_init_39 (fun q_5 cA H hK2 hP hD hS => ?_)
  obtain rfl : E 0 = cA := (ka_i (fun C h => by cases h) hK2 0 rfl).symm
  clear hK2
  have hP : va_P D vwCl [(h0, .inr (2, [.ref q_1, .ref q_2, .ref q_3, .ref q_4, .null, .int 0])), (q_1, .inl (E 0, 60, .inl (fun _ => 0))), (q_2, .inl (E 0, 60, .inl (fun _ => 0))), (q_3, .inl (E 0, 60, .inl (fun _ => 0))), (q_4, .inl (E 0, 60, .inl (fun _ => 0))), (q_5, .inl (E 0, 60, .inl (fun _ => 0)))] H := hP
  have hD : va_D A [(h0, .inr (2, [.ref q_1, .ref q_2, .ref q_3, .ref q_4, .null, .int 0])), (q_1, .inl (E 0, 60, .inl (fun _ => 0))), (q_2, .inl (E 0, 60, .inl (fun _ => 0))), (q_3, .inl (E 0, 60, .inl (fun _ => 0))), (q_4, .inl (E 0, 60, .inl (fun _ => 0))), (q_5, .inl (E 0, 60, .inl (fun _ => 0)))] := hD
  refine W.widen (k := 5) (n := 300) (Nat.le_of_ble_eq_true rfl) (Nat.le_of_ble_eq_true rfl) ?_
  refine va_putF (D := D) (ci := 2) (v := .ref q_5) (ty := .array .int) (C := RX2) (T := TX2) (N := 6) hx hb htb iX2 tyX2 tyX2_ok nmX2 hown hK.1 hP hD hS 0 rfl rfl 4 (by decide) (htb _ k_38) (fun _ h9 => h9) rfl hin rfl (by decide +kernel) rfl rfl (Nat.le_of_ble_eq_true rfl) dX2_init_41 (fun H locs hP hD hS => ?_)
  have hP : va_P D vwCl [(h0, .inr (2, [.ref q_1, .ref q_2, .ref q_3, .ref q_4, .ref q_5, .int 0])), (q_1, .inl (E 0, 60, .inl (fun _ => 0))), (q_2, .inl (E 0, 60, .inl (fun _ => 0))), (q_3, .inl (E 0, 60, .inl (fun _ => 0))), (q_4, .inl (E 0, 60, .inl (fun _ => 0))), (q_5, .inl (E 0, 60, .inl (fun _ => 0)))] H := hP
  have hD : va_D A [(h0, .inr (2, [.ref q_1, .ref q_2, .ref q_3, .ref q_4, .ref q_5, .int 0])), (q_1, .inl (E 0, 60, .inl (fun _ => 0))), (q_2, .inl (E 0, 60, .inl (fun _ => 0))), (q_3, .inl (E 0, 60, .inl (fun _ => 0))), (q_4, .inl (E 0, 60, .inl (fun _ => 0))), (q_5, .inl (E 0, 60, .inl (fun _ => 0)))] := hD
  refine lv_aload_n hx hb dX2_init_44 rfl (lv_at hl 0 rfl) ?_
  refine lv_iconst (v := 0) hx hb dX2_init_45 (by decide) ?_
  refine va_put (D := D) (ci := 2) (v := .int 0) (ty := .int) (C := RX2) (T := TX2) (N := 6) hx hb htb iX2 tyX2 tyX2_ok nmX2 hown hK.1 hP hD hS 0 rfl rfl 5 (by decide) (htb _ k_39) (fun _ h9 => h9) rfl (by decide +kernel) rfl rfl (Nat.le_of_ble_eq_true rfl) dX2_init_46 (fun H locs hP hD hS => ?_)
  have hP : va_P D vwCl [(h0, .inr (2, [.ref q_1, .ref q_2, .ref q_3, .ref q_4, .ref q_5, .int 0])), (q_1, .inl (E 0, 60, .inl (fun _ => 0))), (q_2, .inl (E 0, 60, .inl (fun _ => 0))), (q_3, .inl (E 0, 60, .inl (fun _ => 0))), (q_4, .inl (E 0, 60, .inl (fun _ => 0))), (q_5, .inl (E 0, 60, .inl (fun _ => 0)))] H := hP
  have hD : va_D A [(h0, .inr (2, [.ref q_1, .ref q_2, .ref q_3, .ref q_4, .ref q_5, .int 0])), (q_1, .inl (E 0, 60, .inl (fun _ => 0))), (q_2, .inl (E 0, 60, .inl (fun _ => 0))), (q_3, .inl (E 0, 60, .inl (fun _ => 0))), (q_4, .inl (E 0, 60, .inl (fun _ => 0))), (q_5, .inl (E 0, 60, .inl (fun _ => 0)))] := hD
  have hP9 := hP.sub (ws' := [(h0, .inr (2, [.ref q_1, .ref q_2, .ref q_3, .ref q_4, .ref q_5, .int 0])), (q_1, .inl (E 0, 60, .inl (fun _ => 0))), (q_2, .inl (E 0, 60, .inl (fun _ => 0))), (q_3, .inl (E 0, 60, .inl (fun _ => 0))), (q_4, .inl (E 0, 60, .inl (fun _ => 0))), (q_5, .inl (E 0, 60, .inl (fun _ => 0)))]) [0, 1, 2, 3, 4, 5] rfl
  have hD9 := hD.sub (ws' := [(h0, .inr (2, [.ref q_1, .ref q_2, .ref q_3, .ref q_4, .ref q_5, .int 0])), (q_1, .inl (E 0, 60, .inl (fun _ => 0))), (q_2, .inl (E 0, 60, .inl (fun _ => 0))), (q_3, .inl (E 0, 60, .inl (fun _ => 0))), (q_4, .inl (E 0, 60, .inl (fun _ => 0))), (q_5, .inl (E 0, 60, .inl (fun _ => 0)))]) [0, 1, 2, 3, 4, 5] (by decide) rfl
  exact W.vret hx hb hr (fun t ht hW => ⟨⟨(fun k => ([q_1, q_2, q_3, q_4, q_5] : List Nat).getD k 0), rfl, trivial, by rw [ht]; exact hP9, hD9⟩, hS.F ht⟩) hS.2.2 dX2_init_49
set_option maxHeartbeats 4000000 in
set_option maxRecDepth 100000 in
theorem c_X0_init (l : Launch) (D : va_G) (E : Nat → Nat) (h0 : Nat) (sz : Nat)  : Met l yX0_init (wl yX0_init cX0_init 1 none) (RM 1 5 33) (mu_P D E [.ref h0] [(h0, .inr (0, [.null, .null, .null, .null, .null, .int 0, .int 0, .int 0, .int 0]))] sz) (va_Qv (fun (u : Nat → Nat) => True) (mu_B D (va_A [(h0, .inr (0, [.null, .null, .null, .null, .null, .int 0, .int 0, .int 0, .int 0]))] sz) (fun (u : Nat → Nat) => [(h0, .inr (0, [.ref (u 0), .ref (u 1), .ref (u 2), .ref (u 3), .ref (u 4), .int 0, .int 0, .int 0, .int 0])), ((u 0), .inl (E 0, 9, .inl (fun _ => 0)))])) (va_A [(h0, .inr (0, [.null, .null, .null, .null, .null, .int 0, .int 0, .int 0, .int 0]))] sz)) 5 33 (va_A [(h0, .inr (0, [.null, .null, .null, .null, .null, .int 0, .int 0, .int 0, .int 0]))] sz) := by
  refine Met.ofW (cc := cX0_init) (maxL := 1) (ret := none) (by decide) rfl ?_
  intro p e s m args below meth c s₁ B hml hv
  obtain ⟨rfl, hsz, hP, hK, hD0⟩ := hv
  have hx := B.exec
  have hb := B.bytes
  have hr := B.returns
  have hts := atoms_spec (ws := wl yX0_init cX0_init 1 none) B.pre
  have htb : ∀ w ∈ tb, w.before _ s = true := fun w h => hts w (List.mem_cons_of_mem _ h)
  have hown : s.vm.findClass RX0 = some m.cls := findClass_of_methodNamed B.named
  have hlocks := B.notSynchronized
  have hin : meth.name = "<init>" := (name_of_methodNamed B.named B.method).1
  subst hsz
  have hD := hD0.self (sz := s.heap.size)
  generalize hAe : va_A [(h0, .inr (0, [.null, .null, .null, .null, .null, .int 0, .int 0, .int 0, .int 0]))] s.heap.size = A at hD ⊢
  have hA : ∀ q : Nat, s.heap.size ≤ q → A q := fun q h => by rw [← hAe]; exact Or.inr h
  have hS : va_S A s.heap s.heap [] := va_S.rf
  have hP : va_P D vwCl [(h0, .inr (0, [.null, .null, .null, .null, .null, .int 0, .int 0, .int 0, .int 0]))] s.heap := hP
  have hl := lv_entry ([.ref h0]) (n := 1) (Nat.le_of_ble_eq_true rfl)
  rw [lg_entry_eq]
  generalize (lg_sl ([.ref h0]) ++ List.replicate (1 - (lg_sl ([.ref h0])).length) Slot.unset).toArray = ls at hl ⊢
  have hl : lv_has ls 1 [(0, .ref h0)] := hl
  refine lv_aload_n hx hb dX0_init_0 rfl (lv_at hl 0 rfl) ?_
  refine W.objInit hx hb hown (htb _ k_189) (htb _ k_22) (htb _ k_23) rfl (by rw [hml]; exact hl.1) rfl dX0_init_1 (Nat.le_of_ble_eq_true rfl) (Nat.le_of_ble_eq_true rfl) ?_
  refine W.eq (g2 := F0 m 4 ls []) rfl ?_
  refine lv_aload_n hx hb dX0_init_4 rfl (lv_at hl 0 rfl) ?_
  refine lv_bipush (v := 9) hx hb dX0_init_5 (by decide) ?_
  refine va_newa (atype := .int) (a0 := (9, .inl (fun _ => 0))) hx hb (htb _ k_54) rfl hK.1 hP hD hS hA (fun cA => nw_i cA) (by decide) (by decide) (by decide) (Nat.le_of_ble_eq_true rfl) (Nat.le_of_ble_eq_true rfl) dX0_init_7 (fun q_1 cA H hK2 hP hD hS => ?_)
  obtain rfl : E 0 = cA := (ka_i (fun C h => by cases h) hK2 0 rfl).symm
  clear hK2
  have hP : va_P D vwCl [(h0, .inr (0, [.null, .null, .null, .null, .null, .int 0, .int 0, .int 0, .int 0])), (q_1, .inl (E 0, 9, .inl (fun _ => 0)))] H := hP
  have hD : va_D A [(h0, .inr (0, [.null, .null, .null, .null, .null, .int 0, .int 0, .int 0, .int 0])), (q_1, .inl (E 0, 9, .inl (fun _ => 0)))] := hD
  refine W.widen (k := 1) (n := 9) (Nat.le_of_ble_eq_true rfl) (Nat.le_of_ble_eq_true rfl) ?_
  refine va_putF (D := D) (ci := 0) (v := .ref q_1) (ty := .array .int) (C := RX0) (T := TX0) (N := 9) hx hb htb iX0 tyX0 tyX0_ok nmX0 hown hK.1 hP hD hS 0 rfl rfl 0 (by decide) (htb _ k_190) (fun _ h9 => h9) rfl hin rfl (by decide +kernel) rfl rfl (Nat.le_of_ble_eq_true rfl) dX0_init_9 (fun H locs hP hD hS => ?_)
  have hP : va_P D vwCl [(h0, .inr (0, [.ref q_1, .null, .null, .null, .null, .int 0, .int 0, .int 0, .int 0])), (q_1, .inl (E 0, 9, .inl (fun _ => 0)))] H := hP
  have hD : va_D A [(h0, .inr (0, [.ref q_1, .null, .null, .null, .null, .int 0, .int 0, .int 0, .int 0])), (q_1, .inl (E 0, 9, .inl (fun _ => 0)))] := hD
  refine lv_aload_n hx hb dX0_init_12 rfl (lv_at hl 0 rfl) ?_
  refine lv_bipush (v := 9) hx hb dX0_init_13 (by decide) ?_
  refine va_newa (atype := .int) (a0 := (9, .inl (fun _ => 0))) hx hb (htb _ k_54) rfl hK.1 hP hD hS hA (fun cA => nw_i cA) (by decide) (by decide) (by decide) (Nat.le_of_ble_eq_true rfl) (Nat.le_of_ble_eq_true rfl) dX0_init_15 (fun q_2 cA H hK2 hP hD hS => ?_)
  obtain rfl : E 0 = cA := (ka_i (fun C h => by cases h) hK2 0 rfl).symm
  clear hK2
  have hP : va_P D vwCl [(h0, .inr (0, [.ref q_1, .null, .null, .null, .null, .int 0, .int 0, .int 0, .int 0])), (q_1, .inl (E 0, 9, .inl (fun _ => 0))), (q_2, .inl (E 0, 9, .inl (fun _ => 0)))] H := hP
  have hD : va_D A [(h0, .inr (0, [.ref q_1, .null, .null, .null, .null, .int 0, .int 0, .int 0, .int 0])), (q_1, .inl (E 0, 9, .inl (fun _ => 0))), (q_2, .inl (E 0, 9, .inl (fun _ => 0)))] := hD
  refine W.widen (k := 2) (n := 18) (Nat.le_of_ble_eq_true rfl) (Nat.le_of_ble_eq_true rfl) ?_
  refine va_putF (D := D) (ci := 0) (v := .ref q_2) (ty := .array .int) (C := RX0) (T := TX0) (N := 9) hx hb htb iX0 tyX0 tyX0_ok nmX0 hown hK.1 hP hD hS 0 rfl rfl 1 (by decide) (htb _ k_191) (fun _ h9 => h9) rfl hin rfl (by decide +kernel) rfl rfl (Nat.le_of_ble_eq_true rfl) dX0_init_17 (fun H locs hP hD hS => ?_)
  have hP : va_P D vwCl [(h0, .inr (0, [.ref q_1, .ref q_2, .null, .null, .null, .int 0, .int 0, .int 0, .int 0])), (q_1, .inl (E 0, 9, .inl (fun _ => 0))), (q_2, .inl (E 0, 9, .inl (fun _ => 0)))] H := hP
  have hD : va_D A [(h0, .inr (0, [.ref q_1, .ref q_2, .null, .null, .null, .int 0, .int 0, .int 0, .int 0])), (q_1, .inl (E 0, 9, .inl (fun _ => 0))), (q_2, .inl (E 0, 9, .inl (fun _ => 0)))] := hD
  have hP := hP.sub (ws' := [(h0, .inr (0, [.ref q_1, .ref q_2, .null, .null, .null, .int 0, .int 0, .int 0, .int 0])), (q_1, .inl (E 0, 9, .inl (fun _ => 0)))]) [0, 1] rfl
  have hD := hD.sub (ws' := [(h0, .inr (0, [.ref q_1, .ref q_2, .null, .null, .null, .int 0, .int 0, .int 0, .int 0])), (q_1, .inl (E 0, 9, .inl (fun _ => 0)))]) [0, 1] (by decide) rfl
  refine lv_aload_n hx hb dX0_init_20 rfl (lv_at hl 0 rfl) ?_
  refine lv_bipush (v := 9) hx hb dX0_init_21 (by decide) ?_
  refine va_newa (atype := .int) (a0 := (9, .inl (fun _ => 0))) hx hb (htb _ k_54) rfl hK.1 hP hD hS hA (fun cA => nw_i cA) (by decide) (by decide) (by decide) (Nat.le_of_ble_eq_true rfl) (Nat.le_of_ble_eq_true rfl) dX0_init_23 (fun q_3 cA H hK2 hP hD hS => ?_)
  obtain rfl : E 0 = cA := (ka_i (fun C h => by cases h) hK2 0 rfl).symm
  clear hK2
  have hP : va_P D vwCl [(h0, .inr (0, [.ref q_1, .ref q_2, .null, .null, .null, .int 0, .int 0, .int 0, .int 0])), (q_1, .inl (E 0, 9, .inl (fun _ => 0))), (q_3, .inl (E 0, 9, .inl (fun _ => 0)))] H := hP
  have hD : va_D A [(h0, .inr (0, [.ref q_1, .ref q_2, .null, .null, .null, .int 0, .int 0, .int 0, .int 0])), (q_1, .inl (E 0, 9, .inl (fun _ => 0))), (q_3, .inl (E 0, 9, .inl (fun _ => 0)))] := hD
  refine W.widen (k := 3) (n := 27) (Nat.le_of_ble_eq_true rfl) (Nat.le_of_ble_eq_true rfl) ?_
  refine va_putF (D := D) (ci := 0) (v := .ref q_3) (ty := .array .int) (C := RX0) (T := TX0) (N := 9) hx hb htb iX0 tyX0 tyX0_ok nmX0 hown hK.1 hP hD hS 0 rfl rfl 2 (by decide) (htb _ k_192) (fun _ h9 => h9) rfl hin rfl (by decide +kernel) rfl rfl (Nat.le_of_ble_eq_true rfl) dX0_init_25 (fun H locs hP hD hS => ?_)
  have hP : va_P D vwCl [(h0, .inr (0, [.ref q_1, .ref q_2, .ref q_3, .null, .null, .int 0, .int 0, .int 0, .int 0])), (q_1, .inl (E 0, 9, .inl (fun _ => 0))), (q_3, .inl (E 0, 9, .inl (fun _ => 0)))] H := hP
  have hD : va_D A [(h0, .inr (0, [.ref q_1, .ref q_2, .ref q_3, .null, .null, .int 0, .int 0, .int 0, .int 0])), (q_1, .inl (E 0, 9, .inl (fun _ => 0))), (q_3, .inl (E 0, 9, .inl (fun _ => 0)))] := hD
  have hP := hP.sub (ws' := [(h0, .inr (0, [.ref q_1, .ref q_2, .ref q_3, .null, .null, .int 0, .int 0, .int 0, .int 0])), (q_1, .inl (E 0, 9, .inl (fun _ => 0)))]) [0, 1] rfl
  have hD := hD.sub (ws' := [(h0, .inr (0, [.ref q_1, .ref q_2, .ref q_3, .null, .null, .int 0, .int 0, .int 0, .int 0])), (q_1, .inl (E 0, 9, .inl (fun _ => 0)))]) [0, 1] (by decide) rfl
  refine lv_aload_n hx hb dX0_init_28 rfl (lv_at hl 0 rfl) ?_
  refine lv_iconst (v := 3) hx hb dX0_init_29 (by decide) ?_
  refine va_newa (atype := .int) (a0 := (3, .inl (fun _ => 0))) hx hb (htb _ k_54) rfl hK.1 hP hD hS hA (fun cA => nw_i cA) (by decide) (by decide) (by decide) (Nat.le_of_ble_eq_true rfl) (Nat.le_of_ble_eq_true rfl) dX0_init_30 (fun q_4 cA H hK2 hP hD hS => ?_)
  obtain rfl : E 0 = cA := (ka_i (fun C h => by cases h) hK2 0 rfl).symm
  clear hK2
  have hP : va_P D vwCl [(h0, .inr (0, [.ref q_1, .ref q_2, .ref q_3, .null, .null, .int 0, .int 0, .int 0, .int 0])), (q_1, .inl (E 0, 9, .inl (fun _ => 0))), (q_4, .inl (E 0, 3, .inl (fun _ => 0)))] H := hP
  have hD : va_D A [(h0, .inr (0, [.ref q_1, .ref q_2, .ref q_3, .null, .null, .int 0, .int 0, .int 0, .int 0])), (q_1, .inl (E 0, 9, .inl (fun _ => 0))), (q_4, .inl (E 0, 3, .inl (fun _ => 0)))] := hD
  refine W.widen (k := 4) (n := 30) (Nat.le_of_ble_eq_true rfl) (Nat.le_of_ble_eq_true rfl) ?_
  refine va_putF (D := D) (ci := 0) (v := .ref q_4) (ty := .array .int) (C := RX0) (T := TX0) (N := 9) hx hb htb iX0 tyX0 tyX0_ok nmX0 hown hK.1 hP hD hS 0 rfl rfl 3 (by decide) (htb _ k_194) (fun _ h9 => h9) rfl hin rfl (by decide +kernel) rfl rfl (Nat.le_of_ble_eq_true rfl) dX0_init_32 (fun H locs hP hD hS => ?_)
  have hP : va_P D vwCl [(h0, .inr (0, [.ref q_1, .ref q_2, .ref q_3, .ref q_4, .null, .int 0, .int 0, .int 0, .int 0])), (q_1, .inl (E 0, 9, .inl (fun _ => 0))), (q_4, .inl (E 0, 3, .inl (fun _ => 0)))] H := hP
  have hD : va_D A [(h0, .inr (0, [.ref q_1, .ref q_2, .ref q_3, .ref q_4, .null, .int 0, .int 0, .int 0, .int 0])), (q_1, .inl (E 0, 9, .inl (fun _ => 0))), (q_4, .inl (E 0, 3, .inl (fun _ => 0)))] := hD
  have hP := hP.sub (ws' := [(h0, .inr (0, [.ref q_1, .ref q_2, .ref q_3, .ref q_4, .null, .int 0, .int 0, .int 0, .int 0])), (q_1, .inl (E 0, 9, .inl (fun _ => 0)))]) [0, 1] rfl
  have hD := hD.sub (ws' := [(h0, .inr (0, [.ref q_1, .ref q_2, .ref q_3, .ref q_4, .null, .int 0, .int 0, .int 0, .int 0])), (q_1, .inl (E 0, 9, .inl (fun _ => 0)))]) [0, 1] (by decide) rfl
  refine lv_aload_n hx hb dX0_init_35 rfl (lv_at hl 0 rfl) ?_
  refine lv_iconst (v := 3) hx hb dX0_init_36 (by decide) ?_
  refine va_newa (atype := .int) (a0 := (3, .inl (fun _ => 0))) hx hb (htb _ k_54) rfl hK.1 hP hD hS hA (fun cA => nw_i cA) (by decide) (by decide) (by decide) (Nat.le_of_ble_eq_true rfl) (Nat.le_of_ble_eq_true rfl) dX0_init_37 (fun q_5 cA H hK2 hP hD hS => ?_)
  obtain rfl : E 0 = cA := (ka_i (fun C h => by cases h) hK2 0 rfl).symm
  clear hK2
  have hP : va_P D vwCl [(h0, .inr (0, [.ref q_1, .ref q_2, .ref q_3, .ref q_4, .null, .int 0, .int 0, .int 0, .int 0])), (q_1, .inl (E 0, 9, .inl (fun _ => 0))), (q_5, .inl (E 0, 3, .inl (fun _ => 0)))] H := hP
  have hD : va_D A [(h0, .inr (0, [.ref q_1, .ref q_2, .ref q_3, .ref q_4, .null, .int 0, .int 0, .int 0, .int 0])), (q_1, .inl (E 0, 9, .inl (fun _ => 0))), (q_5, .inl (E 0, 3, .inl (fun _ => 0)))] := hD
  refine W.widen (k := 5) (n := 33) (Nat.le_of_ble_eq_true rfl) (Nat.le_of_ble_eq_true rfl) ?_
  refine va_putF (D := D) (ci := 0) (v := .ref q_5) (ty := .array .int) (C := RX0) (T := TX0) (N := 9) hx hb htb iX0 tyX0 tyX0_ok nmX0 hown hK.1 hP hD hS 0 rfl rfl 4 (by decide) (htb _ k_195) (fun _ h9 => h9) rfl hin rfl (by decide +kernel) rfl rfl (Nat.le_of_ble_eq_true rfl) dX0_init_39 (fun H locs hP hD hS => ?_)
  have hP : va_P D vwCl [(h0, .inr (0, [.ref q_1, .ref q_2, .ref q_3, .ref q_4, .ref q_5, .int 0, .int 0, .int 0, .int 0])), (q_1, .inl (E 0, 9, .inl (fun _ => 0))), (q_5, .inl (E 0, 3, .inl (fun _ => 0)))] H := hP
  have hD : va_D A [(h0, .inr (0, [.ref q_1, .ref q_2, .ref q_3, .ref q_4, .ref q_5, .int 0, .int 0, .int 0, .int 0])), (q_1, .inl (E 0, 9, .inl (fun _ => 0))), (q_5, .inl (E 0, 3, .inl (fun _ => 0)))] := hD
  have hP := hP.sub (ws' := [(h0, .inr (0, [.ref q_1, .ref q_2, .ref q_3, .ref q_4, .ref q_5, .int 0, .int 0, .int 0, .int 0])), (q_1, .inl (E 0, 9, .inl (fun _ => 0)))]) [0, 1] rfl
  have hD := hD.sub (ws' := [(h0, .inr (0, [.ref q_1, .ref q_2, .ref q_3, .ref q_4, .ref q_5, .int 0, .int 0, .int 0, .int 0])), (q_1, .inl (E 0, 9, .inl (fun _ => 0)))]) [0, 1] (by decide) rfl
  refine lv_aload_n hx hb dX0_init_42 rfl (lv_at hl 0 rfl) ?_
  refine lv_iconst (v := 0) hx hb dX0_init_43 (by decide) ?_
  refine va_put (D := D) (ci := 0) (v := .int 0) (ty := .int) (C := RX0) (T := TX0) (N := 9) hx hb htb iX0 tyX0 tyX0_ok nmX0 hown hK.1 hP hD hS 0 rfl rfl 5 (by decide) (htb _ k_196) (fun _ h9 => h9) rfl (by decide +kernel) rfl rfl (Nat.le_of_ble_eq_true rfl) dX0_init_44 (fun H locs hP hD hS => ?_)
  have hP : va_P D vwCl [(h0, .inr (0, [.ref q_1, .ref q_2, .ref q_3, .ref q_4, .ref q_5, .int 0, .int 0, .int 0, .int 0])), (q_1, .inl (E 0, 9, .inl (fun _ => 0)))] H := hP
  have hD : va_D A [(h0, .inr (0, [.ref q_1, .ref q_2, .ref q_3, .ref q_4, .ref q_5, .int 0, .int 0, .int 0, .int 0])), (q_1, .inl (E 0, 9, .inl (fun _ => 0)))] := hD
  refine lv_aload_n hx hb dX0_init_47 rfl (lv_at hl 0 rfl) ?_
  refine lv_iconst (v := 0) hx hb dX0_init_48 (by decide) ?_
  refine va_put (D := D) (ci := 0) (v := .int 0) (ty := .int) (C := RX0) (T := TX0) (N := 9) hx hb htb iX0 tyX0 tyX0_ok nmX0 hown hK.1 hP hD hS 0 rfl rfl 6 (by decide) (htb _ k_198) (fun _ h9 => h9) rfl (by decide +kernel) rfl rfl (Nat.le_of_ble_eq_true rfl) dX0_init_49 (fun H locs hP hD hS => ?_)
  have hP : va_P D vwCl [(h0, .inr (0, [.ref q_1, .ref q_2, .ref q_3, .ref q_4, .ref q_5, .int 0, .int 0, .int 0, .int 0])), (q_1, .inl (E 0, 9, .inl (fun _ => 0)))] H := hP
  have hD : va_D A [(h0, .inr (0, [.ref q_1, .ref q_2, .ref q_3, .ref q_4, .ref q_5, .int 0, .int 0, .int 0, .int 0])), (q_1, .inl (E 0, 9, .inl (fun _ => 0)))] := hD
  refine lv_aload_n hx hb dX0_init_52 rfl (lv_at hl 0 rfl) ?_
  refine lv_iconst (v := 0) hx hb dX0_init_53 (by decide) ?_
  refine va_put (D := D) (ci := 0) (v := .int 0) (ty := .int) (C := RX0) (T := TX0) (N := 9) hx hb htb iX0 tyX0 tyX0_ok nmX0 hown hK.1 hP hD hS 0 rfl rfl 7 (by decide) (htb _ k_200) (fun _ h9 => h9) rfl (by decide +kernel) rfl rfl (Nat.le_of_ble_eq_true rfl) dX0_init_54 (fun H locs hP hD hS => ?_)
  have hP : va_P D vwCl [(h0, .inr (0, [.ref q_1, .ref q_2, .ref q_3, .ref q_4, .ref q_5, .int 0, .int 0, .int 0, .int 0])), (q_1, .inl (E 0, 9, .inl (fun _ => 0)))] H := hP
  have hD : va_D A [(h0, .inr (0, [.ref q_1, .ref q_2, .ref q_3, .ref q_4, .ref q_5, .int 0, .int 0, .int 0, .int 0])), (q_1, .inl (E 0, 9, .inl (fun _ => 0)))] := hD
  refine lv_aload_n hx hb dX0_init_57 rfl (lv_at hl 0 rfl) ?_
  refine lv_iconst (v := 0) hx hb dX0_init_58 (by decide) ?_
  refine va_put (D := D) (ci := 0) (v := .int 0) (ty := .int) (C := RX0) (T := TX0) (N := 9) hx hb htb iX0 tyX0 tyX0_ok nmX0 hown hK.1 hP hD hS 0 rfl rfl 8 (by decide) (htb _ k_201) (fun _ h9 => h9) rfl (by decide +kernel) rfl rfl (Nat.le_of_ble_eq_true rfl) dX0_init_59 (fun H locs hP hD hS => ?_)
  have hP : va_P D vwCl [(h0, .inr (0, [.ref q_1, .ref q_2, .ref q_3, .ref q_4, .ref q_5, .int 0, .int 0, .int 0, .int 0])), (q_1, .inl (E 0, 9, .inl (fun _ => 0)))] H := hP
  have hD : va_D A [(h0, .inr (0, [.ref q_1, .ref q_2, .ref q_3, .ref q_4, .ref q_5, .int 0, .int 0, .int 0, .int 0])), (q_1, .inl (E 0, 9, .inl (fun _ => 0)))] := hD
  have hP9 := hP.sub (ws' := [(h0, .inr (0, [.ref q_1, .ref q_2, .ref q_3, .ref q_4, .ref q_5, .int 0, .int 0, .int 0, .int 0])), (q_1, .inl (E 0, 9, .inl (fun _ => 0)))]) [0, 1] rfl
  have hD9 := hD.sub (ws' := [(h0, .inr (0, [.ref q_1, .ref q_2, .ref q_3, .ref q_4, .ref q_5, .int 0, .int 0, .int 0, .int 0])), (q_1, .inl (E 0, 9, .inl (fun _ => 0)))]) [0, 1] (by decide) rfl
  exact W.vret hx hb hr (fun t ht hW => ⟨⟨(fun k => ([q_1, q_2, q_3, q_4, q_5] : List Nat).getD k 0), rfl, trivial, by rw [ht]; exact hP9, hD9⟩, hS.F ht⟩) hS.2.2 dX0_init_62
set_option maxHeartbeats 4000000 in
set_option maxRecDepth 100000 in
theorem c_X7_init (l : Launch) (D : va_G) (E : Nat → Nat) (h0 : Nat) (sz : Nat)  : Met l yX7_init (wl yX7_init cX7_init 1 none) (RM 1 4 1600) (mu_P D E [.ref h0] [(h0, .inr (7, [.null, .null, .null, .null]))] sz) (va_Qv (fun (u : Nat → Nat) => True) (mu_B D (va_A [(h0, .inr (7, [.null, .null, .null, .null]))] sz) (fun (u : Nat → Nat) => [(h0, .inr (7, [.ref (u 0), .ref (u 1), .ref (u 2), .ref (u 3)])), ((u 0), .inl (E 0, 400, .inl (fun _ => 0))), ((u 1), .inl (E 0, 400, .inl (fun _ => 0))), ((u 2), .inl (E 0, 400, .inl (fun _ => 0))), ((u 3), .inl (E 0, 400, .inl (fun _ => 0)))])) (va_A [(h0, .inr (7, [.null, .null, .null, .null]))] sz)) 4 1600 (va_A [(h0, .inr (7, [.null, .null, .null, .null]))] sz) := by
  refine Met.ofW (cc := cX7_init) (maxL := 1) (ret := none) (by decide) rfl ?_
  intro p e s m args below meth c s₁ B hml hv
  obtain ⟨rfl, hsz, hP, hK, hD0⟩ := hv
  have hx := B.exec
  have hb := B.bytes
  have hr := B.returns
  have hts := atoms_spec (ws := wl yX7_init cX7_init 1 none) B.pre
  have htb : ∀ w ∈ tb, w.before _ s = true := fun w h => hts w (List.mem_cons_of_mem _ h)
  have hown : s.vm.findClass RX7 = some m.cls := findClass_of_methodNamed B.named
  have hlocks := B.notSynchronized
  have hin : meth.name = "<init>" := (name_of_methodNamed B.named B.method).1
  subst hsz
  have hD := hD0.self (sz := s.heap.size)
  generalize hAe : va_A [(h0, .inr (7, [.null, .null, .null, .null]))] s.heap.size = A at hD ⊢
  have hA : ∀ q : Nat, s.heap.size ≤ q → A q := fun q h => by rw [← hAe]; exact Or.inr h
  have hS : va_S A s.heap s.heap [] := va_S.rf
  have hP : va_P D vwCl [(h0, .inr (7, [.null, .null, .null, .null]))] s.heap := hP
  have hl := lv_entry ([.ref h0]) (n := 1) (Nat.le_of_ble_eq_true rfl)
  rw [lg_entry_eq]
  generalize (lg_sl ([.ref h0]) ++ List.replicate (1 - (lg_sl ([.ref h0])).length) Slot.unset).toArray = ls at hl ⊢
  have hl : lv_has ls 1 [(0, .ref h0)] := hl
  refine lv_aload_n hx hb dX7_init_0 rfl (lv_at hl 0 rfl) ?_
  refine W.objInit hx hb hown (htb _ k_347) (htb _ k_22) (htb _ k_23) rfl (by rw [hml]; exact hl.1) rfl dX7_init_1 (Nat.le_of_ble_eq_true rfl) (Nat.le_of_ble_eq_true rfl) ?_
  refine W.eq (g2 := F0 m 4 ls []) rfl ?_
  refine lv_aload_n hx hb dX7_init_4 rfl (lv_at hl 0 rfl) ?_
  refine lv_sipush (v := 400) hx hb dX7_init_5 (by decide) ?_
  refine va_newa (atype := .int) (a0 := (400, .inl (fun _ => 0))) hx hb (htb _ k_54) rfl hK.1 hP hD hS hA (fun cA => nw_i cA) (by decide) (by decide) (by decide) (Nat.le_of_ble_eq_true rfl) (Nat.le_of_ble_eq_true rfl) dX7_init_8 (fun q_1 cA H hK2 hP hD hS => ?_)
  obtain rfl : E 0 = cA := (ka_i (fun C h => by cases h) hK2 0 rfl).symm
  clear hK2
  have hP : va_P D vwCl [(h0, .inr (7, [.null, .null, .null, .null])), (q_1, .inl (E 0, 400, .inl (fun _ => 0)))] H := hP
  have hD : va_D A [(h0, .inr (7, [.null, .null, .null, .null])), (q_1, .inl (E 0, 400, .inl (fun _ => 0)))] := hD
  refine W.widen (k := 1) (n := 400) (Nat.le_of_ble_eq_true rfl) (Nat.le_of_ble_eq_true rfl) ?_
  refine va_putF (D := D) (ci := 7) (v := .ref q_1) (ty := .array .int) (C := RX7) (T := TX7) (N := 4) hx hb htb iX7 tyX7 tyX7_ok nmX7 hown hK.1 hP hD hS 0 rfl rfl 0 (by decide) (htb _ k_348) (fun _ h9 => h9) rfl hin rfl (by decide +kernel) rfl rfl (Nat.le_of_ble_eq_true rfl) dX7_init_10 (fun H locs hP hD hS => ?_)
  have hP : va_P D vwCl [(h0, .inr (7, [.ref q_1, .null, .null, .null])), (q_1, .inl (E 0, 400, .inl (fun _ => 0)))] H := hP
  have hD : va_D A [(h0, .inr (7, [.ref q_1, .null, .null, .null])), (q_1, .inl (E 0, 400, .inl (fun _ => 0)))] := hD
  refine lv_aload_n hx hb dX7_init_13 rfl (lv_at hl 0 rfl) ?_
  refine lv_sipush (v := 400) hx hb dX7_init_14 (by decide) ?_
  refine va_newa (atype := .int) (a0 := (400, .inl (fun _ => 0))) hx hb (htb _ k_54) rfl hK.1 hP hD hS hA (fun cA => nw_i cA) (by decide) (by decide) (by decide) (Nat.le_of_ble_eq_true rfl) (Nat.le_of_ble_eq_true rfl) dX7_init_17 (fun q_2 cA H hK2 hP hD hS => ?_)
  obtain rfl : E 0 = cA := (ka_i (fun C h => by cases h) hK2 0 rfl).symm
  clear hK2
  have hP : va_P D vwCl [(h0, .inr (7, [.ref q_1, .null, .null, .null])), (q_1, .inl (E 0, 400, .inl (fun _ => 0))), (q_2, .inl (E 0, 400, .inl (fun _ => 0)))] H := hP
  have hD : va_D A [(h0, .inr (7, [.ref q_1, .null, .null, .null])), (q_1, .inl (E 0, 400, .inl (fun _ => 0))), (q_2, .inl (E 0, 400, .inl (fun _ => 0)))] := hD
  refine W.widen (k := 2) (n := 800) (Nat.le_of_ble_eq_true rfl) (Nat.le_of_ble_eq_true rfl) ?_
  refine va_putF (D := D) (ci := 7) (v := .ref q_2) (ty := .array .int) (C := RX7) (T := TX7) (N := 4) hx hb htb iX7 tyX7 tyX7_ok nmX7 hown hK.1 hP hD hS 0 rfl rfl 1 (by decide) (htb _ k_349) (fun _ h9 => h9) rfl hin rfl (by decide +kernel) rfl rfl (Nat.le_of_ble_eq_true rfl) dX7_init_19 (fun H locs hP hD hS => ?_)
  have hP : va_P D vwCl [(h0, .inr (7, [.ref q_1, .ref q_2, .null, .null])), (q_1, .inl (E 0, 400, .inl (fun _ => 0))), (q_2, .inl (E 0, 400, .inl (fun _ => 0)))] H := hP
  have hD : va_D A [(h0, .inr (7, [.ref q_1, .ref q_2, .null, .null])), (q_1, .inl (E 0, 400, .inl (fun _ => 0))), (q_2, .inl (E 0, 400, .inl (fun _ => 0)))] := hD
  refine lv_aload_n hx hb dX7_init_22 rfl (lv_at hl 0 rfl) ?_
  refine lv_sipush (v := 400) hx hb dX7_init_23 (by decide) ?_
  refine va_newa (atype := .int) (a0 := (400, .inl (fun _ => 0))) hx hb (htb _ k_54) rfl hK.1 hP hD hS hA (fun cA => nw_i cA) (by decide) (by decide) (by decide) (Nat.le_of_ble_eq_true rfl) (Nat.le_of_ble_eq_true rfl) dX7_init_26 (fun q_3 cA H hK2 hP hD hS => ?_)
  obtain rfl : E 0 = cA := (ka_i (fun C h => by cases h) hK2 0 rfl).symm
  clear hK2
  have hP : va_P D vwCl [(h0, .inr (7, [.ref q_1, .ref q_2, .null, .null])), (q_1, .inl (E 0, 400, .inl (fun _ => 0))), (q_2, .inl (E 0, 400, .inl (fun _ => 0))), (q_3, .inl (E 0, 400, .inl (fun _ => 0)))] H := hP
  have hD : va_D A [(h0, .inr (7, [.ref q_1, .ref q_2, .null, .null])), (q_1, .inl (E 0, 400, .inl (fun _ => 0))), (q_2, .inl (E 0, 400, .inl (fun _ => 0))), (q_3, .inl (E 0, 400, .inl (fun _ => 0)))] := hD
  refine W.widen (k := 3) (n := 1200) (Nat.le_of_ble_eq_true rfl) (Nat.le_of_ble_eq_true rfl) ?_
  refine va_putF (D := D) (ci := 7) (v := .ref q_3) (ty := .array .int) (C := RX7) (T := TX7) (N := 4) hx hb htb iX7 tyX7 tyX7_ok nmX7 hown hK.1 hP hD hS 0 rfl rfl 2 (by decide) (htb _ k_350) (fun _ h9 => h9) rfl hin rfl (by decide +kernel) rfl rfl (Nat.le_of_ble_eq_true rfl) dX7_init_28 (fun H locs hP hD hS => ?_)
  have hP : va_P D vwCl [(h0, .inr (7, [.ref q_1, .ref q_2, .ref q_3, .null])), (q_1, .inl (E 0, 400, .inl (fun _ => 0))), (q_2, .inl (E 0, 400, .inl (fun _ => 0))), (q_3, .inl (E 0, 400, .inl (fun _ => 0)))] H := hP
  have hD : va_D A [(h0, .inr (7, [.ref q_1, .ref q_2, .ref q_3, .null])), (q_1, .inl (E 0, 400, .inl (fun _ => 0))), (q_2, .inl (E 0, 400, .inl (fun _ => 0))), (q_3, .inl (E 0, 400, .inl (fun _ => 0)))] := hD
  refine lv_aload_n hx hb dX7_init_31 rfl (lv_at hl 0 rfl) ?_
  refine lv_sipush (v := 400) hx hb dX7_init_32 (by decide) ?_
  refine va_newa (atype := .int) (a0 := (400, .inl (fun _ => 0))) hx hb (htb _ k_54) rfl hK.1 hP hD hS hA (fun cA => nw_i cA) (by decide) (by decide) (by decide) (Nat.le_of_ble_eq_true rfl) (Nat.le_of_ble_eq_true rfl) dX7_init_35 (fun q_4 cA H hK2 hP hD hS => ?_)
  obtain rfl : E 0 = cA := (ka_i (fun C h => by cases h) hK2 0 rfl).symm
  clear hK2
  have hP : va_P D vwCl [(h0, .inr (7, [.ref q_1, .ref q_2, .ref q_3, .null])), (q_1, .inl (E 0, 400, .inl (fun _ => 0))), (q_2, .inl (E 0, 400, .inl (fun _ => 0))), (q_3, .inl (E 0, 400, .inl (fun _ => 0))), (q_4, .inl (E 0, 400, .inl (fun _ => 0)))] H := hP
  have hD : va_D A [(h0, .inr (7, [.ref q_1, .ref q_2, .ref q_3, .null])), (q_1, .inl (E 0, 400, .inl (fun _ => 0))), (q_2, .inl (E 0, 400, .inl (fun _ => 0))), (q_3, .inl (E 0, 400, .inl (fun _ => 0))), (q_4, .inl (E 0, 400, .inl (fun _ => 0)))] := hD
  refine W.widen (k := 4) (n := 1600) (Nat.le_of_ble_eq_true rfl) (Nat.le_of_ble_eq_true rfl) ?_
  refine va_putF (D := D) (ci := 7) (v := .ref q_4) (ty := .array .int) (C := RX7) (T := TX7) (N := 4) hx hb htb iX7 tyX7 tyX7_ok nmX7 hown hK.1 hP hD hS 0 rfl rfl 3 (by decide) (htb _ k_351) (fun _ h9 => h9) rfl hin rfl (by decide +kernel) rfl rfl (Nat.le_of_ble_eq_true rfl) dX7_init_37 (fun H locs hP hD hS => ?_)
  have hP : va_P D vwCl [(h0, .inr (7, [.ref q_1, .ref q_2, .ref q_3, .ref q_4])), (q_1, .inl (E 0, 400, .inl (fun _ => 0))), (q_2, .inl (E 0, 400, .inl (fun _ => 0))), (q_3, .inl (E 0, 400, .inl (fun _ => 0))), (q_4, .inl (E 0, 400, .inl (fun _ => 0)))] H := hP
  have hD : va_D A [(h0, .inr (7, [.ref q_1, .ref q_2, .ref q_3, .ref q_4])), (q_1, .inl (E 0, 400, .inl (fun _ => 0))), (q_2, .inl (E 0, 400, .inl (fun _ => 0))), (q_3, .inl (E 0, 400, .inl (fun _ => 0))), (q_4, .inl (E 0, 400, .inl (fun _ => 0)))] := hD
  have hP9 := hP.sub (ws' := [(h0, .inr (7, [.ref q_1, .ref q_2, .ref q_3, .ref q_4])), (q_1, .inl (E 0, 400, .inl (fun _ => 0))), (q_2, .inl (E 0, 400, .inl (fun _ => 0))), (q_3, .inl (E 0, 400, .inl (fun _ => 0))), (q_4, .inl (E 0, 400, .inl (fun _ => 0)))]) [0, 1, 2, 3, 4] rfl
  have hD9 := hD.sub (ws' := [(h0, .inr (7, [.ref q_1, .ref q_2, .ref q_3, .ref q_4])), (q_1, .inl (E 0, 400, .inl (fun _ => 0))), (q_2, .inl (E 0, 400, .inl (fun _ => 0))), (q_3, .inl (E 0, 400, .inl (fun _ => 0))), (q_4, .inl (E 0, 400, .inl (fun _ => 0)))]) [0, 1, 2, 3, 4] (by decide) rfl
  exact W.vret hx hb hr (fun t ht hW => ⟨⟨(fun k => ([q_1, q_2, q_3, q_4] : List Nat).getD k 0), rfl, trivial, by rw [ht]; exact hP9, hD9⟩, hS.F ht⟩) hS.2.2 dX7_init_40
set_option maxHeartbeats 4000000 in
set_option maxRecDepth 100000 in
theorem c_X6_init (l : Launch) (D : va_G) (E : Nat → Nat) (h0 : Nat) (sz : Nat)  : Met l yX6_init (wl yX6_init cX6_init 1 none) (RM 2 5 484) (mu_P D E [.ref h0] [(h0, .inr (6, [.null, .int 0, .null, .null, .int 0, .int 0, .int 0, .int 0]))] sz) (va_Qv (fun (u : Nat → Nat) => True) (mu_B D (va_A [(h0, .inr (6, [.null, .int 0, .null, .null, .int 0, .int 0, .int 0, .int 0]))] sz) (fun (u : Nat → Nat) => [(h0, .inr (6, [.ref (u 0), .int 0, .ref (u 1), .ref (E 5), .int 0, .int 0, .int 0, .int 0])), ((u 0), .inl (E 0, 120, .inl (fun _ => 0))), ((u 1), .inr (4, [.ref (u 2), .ref (u 3), .ref (u 4), .int 0]))])) (va_A [(h0, .inr (6, [.null, .int 0, .null, .null, .int 0, .int 0, .int 0, .int 0]))] sz)) 5 484 (va_A [(h0, .inr (6, [.null, .int 0, .null, .null, .int 0, .int 0, .int 0, .int 0]))] sz) := by
  refine Met.ofW (cc := cX6_init) (maxL := 1) (ret := none) (by decide) rfl ?_
  intro p e s m args below meth c s₁ B hml hv
  obtain ⟨rfl, hsz, hP, hK, hD0⟩ := hv
  have hx := B.exec
  have hb := B.bytes
  have hr := B.returns
  have hts := atoms_spec (ws := wl yX6_init cX6_init 1 none) B.pre
  have htb : ∀ w ∈ tb, w.before _ s = true := fun w h => hts w (List.mem_cons_of_mem _ h)
  have hown : s.vm.findClass RX6 = some m.cls := findClass_of_methodNamed B.named
  have hlocks := B.notSynchronized
  have hin : meth.name = "<init>" := (name_of_methodNamed B.named B.method).1
  subst hsz
  have hD := hD0.self (sz := s.heap.size)
  generalize hAe : va_A [(h0, .inr (6, [.null, .int 0, .null, .null, .int 0, .int 0, .int 0, .int 0]))] s.heap.size = A at hD ⊢
  have hA : ∀ q : Nat, s.heap.size ≤ q → A q := fun q h => by rw [← hAe]; exact Or.inr h
  have hS : va_S A s.heap s.heap [] := va_S.rf
  have hP : va_P D vwCl [(h0, .inr (6, [.null, .int 0, .null, .null, .int 0, .int 0, .int 0, .int 0]))] s.heap := hP
  have hl := lv_entry ([.ref h0]) (n := 1) (Nat.le_of_ble_eq_true rfl)
  rw [lg_entry_eq]
  generalize (lg_sl ([.ref h0]) ++ List.replicate (1 - (lg_sl ([.ref h0])).length) Slot.unset).toArray = ls at hl ⊢
  have hl : lv_has ls 1 [(0, .ref h0)] := hl
  refine lv_aload_n hx hb dX6_init_0 rfl (lv_at hl 0 rfl) ?_
  refine W.objInit hx hb hown (htb _ k_134) (htb _ k_22) (htb _ k_23) rfl (by rw [hml]; exact hl.1) rfl dX6_init_1 (Nat.le_of_ble_eq_true rfl) (Nat.le_of_ble_eq_true rfl) ?_
  refine W.eq (g2 := F0 m 4 ls []) rfl ?_
  refine lv_aload_n hx hb dX6_init_4 rfl (lv_at hl 0 rfl) ?_
  refine lv_bipush (v := 120) hx hb dX6_init_5 (by decide) ?_
  refine va_newa (atype := .int) (a0 := (120, .inl (fun _ => 0))) hx hb (htb _ k_54) rfl hK.1 hP hD hS hA (fun cA => nw_i cA) (by decide) (by decide) (by decide) (Nat.le_of_ble_eq_true rfl) (Nat.le_of_ble_eq_true rfl) dX6_init_7 (fun q_1 cA H hK2 hP hD hS => ?_)
  obtain rfl : E 0 = cA := (ka_i (fun C h => by cases h) hK2 0 rfl).symm
  clear hK2
  have hP : va_P D vwCl [(h0, .inr (6, [.null, .int 0, .null, .null, .int 0, .int 0, .int 0, .int 0])), (q_1, .inl (E 0, 120, .inl (fun _ => 0)))] H := hP
  have hD : va_D A [(h0, .inr (6, [.null, .int 0, .null, .null, .int 0, .int 0, .int 0, .int 0])), (q_1, .inl (E 0, 120, .inl (fun _ => 0)))] := hD
  refine W.widen (k := 1) (n := 120) (Nat.le_of_ble_eq_true rfl) (Nat.le_of_ble_eq_true rfl) ?_
  refine va_putF (D := D) (ci := 6) (v := .ref q_1) (ty := .array .int) (C := RX6) (T := TX6) (N := 8) hx hb htb iX6 tyX6 tyX6_ok nmX6 hown hK.1 hP hD hS 0 rfl rfl 0 (by decide) (htb _ k_157) (fun _ h9 => h9) rfl hin rfl (by decide +kernel) rfl rfl (Nat.le_of_ble_eq_true rfl) dX6_init_9 (fun H locs hP hD hS => ?_)
  have hP : va_P D vwCl [(h0, .inr (6, [.ref q_1, .int 0, .null, .null, .int 0, .int 0, .int 0, .int 0])), (q_1, .inl (E 0, 120, .inl (fun _ => 0)))] H := hP
  have hD : va_D A [(h0, .inr (6, [.ref q_1, .int 0, .null, .null, .int 0, .int 0, .int 0, .int 0])), (q_1, .inl (E 0, 120, .inl (fun _ => 0)))] := hD
  refine lv_aload_n hx hb dX6_init_12 rfl (lv_at hl 0 rfl) ?_
  refine lv_iconst (v := 0) hx hb dX6_init_13 (by decide) ?_
  refine va_put (D := D) (ci := 6) (v := .int 0) (ty := .int) (C := RX6) (T := TX6) (N := 8) hx hb htb iX6 tyX6 tyX6_ok nmX6 hown hK.1 hP hD hS 0 rfl rfl 1 (by decide) (htb _ k_158) (fun _ h9 => h9) rfl (by decide +kernel) rfl rfl (Nat.le_of_ble_eq_true rfl) dX6_init_14 (fun H locs hP hD hS => ?_)
  have hP : va_P D vwCl [(h0, .inr (6, [.ref q_1, .int 0, .null, .null, .int 0, .int 0, .int 0, .int 0])), (q_1, .inl (E 0, 120, .inl (fun _ => 0)))] H := hP
  have hD : va_D A [(h0, .inr (6, [.ref q_1, .int 0, .null, .null, .int 0, .int 0, .int 0, .int 0])), (q_1, .inl (E 0, 120, .inl (fun _ => 0)))] := hD
  refine lv_aload_n hx hb dX6_init_17 rfl (lv_at hl 0 rfl) ?_
  refine va_new (ci := 4) (fs := [.null, .null, .null, .int 0]) (C := RX4) (T := TX4) (N := 4) hx hb htb iX4 tyX4 tyX4_ok hown (htb _ k_135) (htb _ k_136) (htb _ k_6) hK.1 hP hD hS hA rfl (by decide) (Nat.le_of_ble_eq_true rfl) (Nat.le_of_ble_eq_true rfl) dX6_init_18 (fun q_2 H hP hD hS => ?_)
  have hP : va_P D vwCl [(h0, .inr (6, [.ref q_1, .int 0, .null, .null, .int 0, .int 0, .int 0, .int 0])), (q_1, .inl (E 0, 120, .inl (fun _ => 0))), (q_2, .inr (4, [.null, .null, .null, .int 0]))] H := hP
  have hD : va_D A [(h0, .inr (6, [.ref q_1, .int 0, .null, .null, .int 0, .int 0, .int 0, .int 0])), (q_1, .inl (E 0, 120, .inl (fun _ => 0))), (q_2, .inr (4, [.null, .null, .null, .int 0]))] := hD
  refine W.widen (k := 2) (n := 124) (Nat.le_of_ble_eq_true rfl) (Nat.le_of_ble_eq_true rfl) ?_
  refine lv_dup hx hb dX6_init_21 rfl ?_
  have hPc := hP.sub (ws' := [(q_2, .inr (4, [.null, .null, .null, .int 0]))]) [2] rfl
  have hDc := hD.sub (ws' := [(q_2, .inr (4, [.null, .null, .null, .int 0]))]) [2] (by decide) rfl
  refine aft_v (runMN (rest := [.ref q_2, .ref h0]) (As := []) hx hb hml hown htb hK (c_X4_init l D E q_2 _ ) ok_X4_init rfl (show Cond.methodLinkNest RX6 21 yX4_init RX8 ∈ nestW by decide +kernel) k_138 k_6 k_139 ⟨(Nat.le_of_ble_eq_true rfl), (Nat.le_of_ble_eq_true rfl)⟩ ⟨(Nat.le_of_ble_eq_true rfl), (Nat.le_of_ble_eq_true rfl)⟩ hl.1 (Nat.le_of_ble_eq_true rfl) rfl rfl dX6_init_22 hPc hDc) hP hD hS hA [2] [0, 1] (wr := [(h0, .inr (6, [.ref q_1, .int 0, .null, .null, .int 0, .int 0, .int 0, .int 0])), (q_1, .inl (E 0, 120, .inl (fun _ => 0)))]) rfl rfl (by decide) (by decide) (fun u_3 H locs hw_4 hP hD hS => ?_)
  clear hPc hDc
  have hP : va_P D vwCl [(h0, .inr (6, [.ref q_1, .int 0, .null, .null, .int 0, .int 0, .int 0, .int 0])), (q_1, .inl (E 0, 120, .inl (fun _ => 0))), (q_2, .inr (4, [.ref (u_3 0), .ref (u_3 1), .ref (u_3 2), .int 0]))] H := hP
  have hD : va_D A [(h0, .inr (6, [.ref q_1, .int 0, .null, .null, .int 0, .int 0, .int 0, .int 0])), (q_1, .inl (E 0, 120, .inl (fun _ => 0))), (q_2, .inr (4, [.ref (u_3 0), .ref (u_3 1), .ref (u_3 2), .int 0]))] := hD
  refine W.widen (k := 5) (n := 484) (Nat.le_of_ble_eq_true rfl) (Nat.le_of_ble_eq_true rfl) ?_
  refine va_put (D := D) (ci := 6) (v := .ref q_2) (ty := .object "SeaWatches$Rule") (C := RX6) (T := TX6) (N := 8) hx hb htb iX6 tyX6 tyX6_ok nmX6 hown hK.1 hP hD hS 0 rfl rfl 2 (by decide) (htb _ k_160) (fun _ h9 => h9) rfl (by decide +kernel) rfl rfl (Nat.le_of_ble_eq_true rfl) dX6_init_25 (fun H locs hP hD hS => ?_)
  have hP : va_P D vwCl [(h0, .inr (6, [.ref q_1, .int 0, .ref q_2, .null, .int 0, .int 0, .int 0, .int 0])), (q_1, .inl (E 0, 120, .inl (fun _ => 0))), (q_2, .inr (4, [.ref (u_3 0), .ref (u_3 1), .ref (u_3 2), .int 0]))] H := hP
  have hD : va_D A [(h0, .inr (6, [.ref q_1, .int 0, .ref q_2, .null, .int 0, .int 0, .int 0, .int 0])), (q_1, .inl (E 0, 120, .inl (fun _ => 0))), (q_2, .inr (4, [.ref (u_3 0), .ref (u_3 1), .ref (u_3 2), .int 0]))] := hD
  refine lv_aload_n hx hb dX6_init_28 rfl (lv_at hl 0 rfl) ?_
  refine va_ldcS hx hb hown hK.2.2.2.1 dX6_init_29 ?_
  refine va_put (D := D) (ci := 6) (v := .ref (E 5)) (ty := .object "java/lang/String") (C := RX6) (T := TX6) (N := 8) hx hb htb iX6 tyX6 tyX6_ok nmX6 hown hK.1 hP hD hS 0 rfl rfl 3 (by decide) (htb _ k_161) (fun _ h9 => h9) rfl (by decide +kernel) rfl rfl (Nat.le_of_ble_eq_true rfl) dX6_init_31 (fun H locs hP hD hS => ?_)
  have hP : va_P D vwCl [(h0, .inr (6, [.ref q_1, .int 0, .ref q_2, .ref (E 5), .int 0, .int 0, .int 0, .int 0])), (q_1, .inl (E 0, 120, .inl (fun _ => 0))), (q_2, .inr (4, [.ref (u_3 0), .ref (u_3 1), .ref (u_3 2), .int 0]))] H := hP
  have hD : va_D A [(h0, .inr (6, [.ref q_1, .int 0, .ref q_2, .ref (E 5), .int 0, .int 0, .int 0, .int 0])), (q_1, .inl (E 0, 120, .inl (fun _ => 0))), (q_2, .inr (4, [.ref (u_3 0), .ref (u_3 1), .ref (u_3 2), .int 0]))] := hD
  refine lv_aload_n hx hb dX6_init_34 rfl (lv_at hl 0 rfl) ?_
  refine lv_iconst (v := 0) hx hb dX6_init_35 (by decide) ?_
  refine va_put (D := D) (ci := 6) (v := .int 0) (ty := .int) (C := RX6) (T := TX6) (N := 8) hx hb htb iX6 tyX6 tyX6_ok nmX6 hown hK.1 hP hD hS 0 rfl rfl 4 (by decide) (htb _ k_162) (fun _ h9 => h9) rfl (by decide +kernel) rfl rfl (Nat.le_of_ble_eq_true rfl) dX6_init_36 (fun H locs hP hD hS => ?_)
  have hP : va_P D vwCl [(h0, .inr (6, [.ref q_1, .int 0, .ref q_2, .ref (E 5), .int 0, .int 0, .int 0, .int 0])), (q_1, .inl (E 0, 120, .inl (fun _ => 0))), (q_2, .inr (4, [.ref (u_3 0), .ref (u_3 1), .ref (u_3 2), .int 0]))] H := hP
  have hD : va_D A [(h0, .inr (6, [.ref q_1, .int 0, .ref q_2, .ref (E 5), .int 0, .int 0, .int 0, .int 0])), (q_1, .inl (E 0, 120, .inl (fun _ => 0))), (q_2, .inr (4, [.ref (u_3 0), .ref (u_3 1), .ref (u_3 2), .int 0]))] := hD
  refine lv_aload_n hx hb dX6_init_39 rfl (lv_at hl 0 rfl) ?_
  refine lv_iconst (v := 0) hx hb dX6_init_40 (by decide) ?_
  refine va_put (D := D) (ci := 6) (v := .int 0) (ty := .int) (C := RX6) (T := TX6) (N := 8) hx hb htb iX6 tyX6 tyX6_ok nmX6 hown hK.1 hP hD hS 0 rfl rfl 5 (by decide) (htb _ k_163) (fun _ h9 => h9) rfl (by decide +kernel) rfl rfl (Nat.le_of_ble_eq_true rfl) dX6_init_41 (fun H locs hP hD hS => ?_)
  have hP : va_P D vwCl [(h0, .inr (6, [.ref q_1, .int 0, .ref q_2, .ref (E 5), .int 0, .int 0, .int 0, .int 0])), (q_1, .inl (E 0, 120, .inl (fun _ => 0))), (q_2, .inr (4, [.ref (u_3 0), .ref (u_3 1), .ref (u_3 2), .int 0]))] H := hP
  have hD : va_D A [(h0, .inr (6, [.ref q_1, .int 0, .ref q_2, .ref (E 5), .int 0, .int 0, .int 0, .int 0])), (q_1, .inl (E 0, 120, .inl (fun _ => 0))), (q_2, .inr (4, [.ref (u_3 0), .ref (u_3 1), .ref (u_3 2), .int 0]))] := hD
  refine lv_aload_n hx hb dX6_init_44 rfl (lv_at hl 0 rfl) ?_
  refine lv_iconst (v := 0) hx hb dX6_init_45 (by decide) ?_
  refine va_put (D := D) (ci := 6) (v := .int 0) (ty := .int) (C := RX6) (T := TX6) (N := 8) hx hb htb iX6 tyX6 tyX6_ok nmX6 hown hK.1 hP hD hS 0 rfl rfl 6 (by decide) (htb _ k_164) (fun _ h9 => h9) rfl (by decide +kernel) rfl rfl (Nat.le_of_ble_eq_true rfl) dX6_init_46 (fun H locs hP hD hS => ?_)
  have hP : va_P D vwCl [(h0, .inr (6, [.ref q_1, .int 0, .ref q_2, .ref (E 5), .int 0, .int 0, .int 0, .int 0])), (q_1, .inl (E 0, 120, .inl (fun _ => 0))), (q_2, .inr (4, [.ref (u_3 0), .ref (u_3 1), .ref (u_3 2), .int 0]))] H := hP
  have hD : va_D A [(h0, .inr (6, [.ref q_1, .int 0, .ref q_2, .ref (E 5), .int 0, .int 0, .int 0, .int 0])), (q_1, .inl (E 0, 120, .inl (fun _ => 0))), (q_2, .inr (4, [.ref (u_3 0), .ref (u_3 1), .ref (u_3 2), .int 0]))] := hD
  refine lv_aload_n hx hb dX6_init_49 rfl (lv_at hl 0 rfl) ?_
  refine lv_iconst (v := 0) hx hb dX6_init_50 (by decide) ?_
  refine va_put (D := D) (ci := 6) (v := .int 0) (ty := .int) (C := RX6) (T := TX6) (N := 8) hx hb htb iX6 tyX6 tyX6_ok nmX6 hown hK.1 hP hD hS 0 rfl rfl 7 (by decide) (htb _ k_165) (fun _ h9 => h9) rfl (by decide +kernel) rfl rfl (Nat.le_of_ble_eq_true rfl) dX6_init_51 (fun H locs hP hD hS => ?_)
  have hP : va_P D vwCl [(h0, .inr (6, [.ref q_1, .int 0, .ref q_2, .ref (E 5), .int 0, .int 0, .int 0, .int 0])), (q_1, .inl (E 0, 120, .inl (fun _ => 0))), (q_2, .inr (4, [.ref (u_3 0), .ref (u_3 1), .ref (u_3 2), .int 0]))] H := hP
  have hD : va_D A [(h0, .inr (6, [.ref q_1, .int 0, .ref q_2, .ref (E 5), .int 0, .int 0, .int 0, .int 0])), (q_1, .inl (E 0, 120, .inl (fun _ => 0))), (q_2, .inr (4, [.ref (u_3 0), .ref (u_3 1), .ref (u_3 2), .int 0]))] := hD
  have hP9 := hP.sub (ws' := [(h0, .inr (6, [.ref q_1, .int 0, .ref q_2, .ref (E 5), .int 0, .int 0, .int 0, .int 0])), (q_1, .inl (E 0, 120, .inl (fun _ => 0))), (q_2, .inr (4, [.ref (u_3 0), .ref (u_3 1), .ref (u_3 2), .int 0]))]) [0, 1, 2] rfl
  have hD9 := hD.sub (ws' := [(h0, .inr (6, [.ref q_1, .int 0, .ref q_2, .ref (E 5), .int 0, .int 0, .int 0, .int 0])), (q_1, .inl (E 0, 120, .inl (fun _ => 0))), (q_2, .inr (4, [.ref (u_3 0), .ref (u_3 1), .ref (u_3 2), .int 0]))]) [0, 1, 2] (by decide) rfl
  exact W.vret hx hb hr (fun t ht hW => ⟨⟨(fun k => ([q_1, q_2, (u_3 0), (u_3 1), (u_3 2)] : List Nat).getD k 0), rfl, trivial, by rw [ht]; exact hP9, hD9⟩, hS.F ht⟩) hS.2.2 dX6_init_54
end
section
set_option maxHeartbeats 4000000 in
set_option maxRecDepth 100000 in
theorem c_X7_becomeNew (l : Launch) (D : va_G) (E : Nat → Nat) (h0 : Nat) (a : Nat → Nat) (f0 : Nat → Int32) (f1 : Nat → Int32) (f2 : Nat → Int32) (f3 : Nat → Int32) (sz : Nat)  : Met l yX7_becomeNew (wl yX7_becomeNew cX7_becomeNew 2 none) (RM 0 0 0) (mu_P D E [.ref h0] [(h0, .inr (7, [.ref (a 0), .ref (a 1), .ref (a 2), .ref (a 3)])), ((a 0), .inl (E 0, 400, .inl f0)), ((a 1), .inl (E 0, 400, .inl f1)), ((a 2), .inl (E 0, 400, .inl f2)), ((a 3), .inl (E 0, 400, .inl f3))] sz) (va_Qv (fun (u : Unit) => True) (mu_B D (va_A [(h0, .inr (7, [.ref (a 0), .ref (a 1), .ref (a 2), .ref (a 3)])), ((a 0), .inl (E 0, 400, .inl f0)), ((a 1), .inl (E 0, 400, .inl f1)), ((a 2), .inl (E 0, 400, .inl f2)), ((a 3), .inl (E 0, 400, .inl f3))] sz) (fun (u : Unit) => ([] : va_W))) (va_A [(h0, .inr (7, [.ref (a 0), .ref (a 1), .ref (a 2), .ref (a 3)])), ((a 0), .inl (E 0, 400, .inl f0)), ((a 1), .inl (E 0, 400, .inl f1)), ((a 2), .inl (E 0, 400, .inl f2)), ((a 3), .inl (E 0, 400, .inl f3))] sz)) 0 0 (va_A [(h0, .inr (7, [.ref (a 0), .ref (a 1), .ref (a 2), .ref (a 3)])), ((a 0), .inl (E 0, 400, .inl f0)), ((a 1), .inl (E 0, 400, .inl f1)), ((a 2), .inl (E 0, 400, .inl f2)), ((a 3), .inl (E 0, 400, .inl f3))] sz) := by
  refine Met.ofW (cc := cX7_becomeNew) (maxL := 2) (ret := none) (by decide) rfl ?_
  intro p e s m args below meth c s₁ B hml hv
  obtain ⟨rfl, hsz, hP, hK, hD0⟩ := hv
  have hx := B.exec
  have hb := B.bytes
  have hr := B.returns
  have hts := atoms_spec (ws := wl yX7_becomeNew cX7_becomeNew 2 none) B.pre
  have htb : ∀ w ∈ tb, w.before _ s = true := fun w h => hts w (List.mem_cons_of_mem _ h)
  have hown : s.vm.findClass RX7 = some m.cls := findClass_of_methodNamed B.named
  have hlocks := B.notSynchronized
  subst hsz
  have hD := hD0.self (sz := s.heap.size)
  generalize hAe : va_A [(h0, .inr (7, [.ref (a 0), .ref (a 1), .ref (a 2), .ref (a 3)])), ((a 0), .inl (E 0, 400, .inl f0)), ((a 1), .inl (E 0, 400, .inl f1)), ((a 2), .inl (E 0, 400, .inl f2)), ((a 3), .inl (E 0, 400, .inl f3))] s.heap.size = A at hD ⊢
  have hA : ∀ q : Nat, s.heap.size ≤ q → A q := fun q h => by rw [← hAe]; exact Or.inr h
  have hS : va_S A s.heap s.heap [] := va_S.rf
  have hP : va_P D vwCl [(h0, .inr (7, [.ref (a 0), .ref (a 1), .ref (a 2), .ref (a 3)])), ((a 0), .inl (E 0, 400, .inl f0)), ((a 1), .inl (E 0, 400, .inl f1)), ((a 2), .inl (E 0, 400, .inl f2)), ((a 3), .inl (E 0, 400, .inl f3))] s.heap := hP
  have hl := lv_entry ([.ref h0]) (n := 2) (Nat.le_of_ble_eq_true rfl)
  rw [lg_entry_eq]
  generalize (lg_sl ([.ref h0]) ++ List.replicate (2 - (lg_sl ([.ref h0])).length) Slot.unset).toArray = ls at hl ⊢
  have hl : lv_has ls 2 [(0, .ref h0)] := hl
  refine lv_iconst (v := 0) hx hb dX7_becomeNew_0 (by decide) ?_
  refine lv_istore_n (lv' := [(1, .int 0), (0, .ref h0)]) hx hb dX7_becomeNew_1 rfl hl (by decide) rfl (fun ls hl => ?_)
  have loop_3 : ∀ (N_2 : Nat) (ix : Int32) (gf2_0 : Nat → Int32) (gf2_1 : Nat → Int32) (gf2_2 : Nat → Int32) (gf2_3 : Nat → Int32) (H : Heap) (locs : List Loc) (ls : Array Slot), 400 - ix.toInt < (N_2 : Int) → (0 ≤ ix.toInt) → (ix.toInt ≤ 400) → va_P D vwCl [(h0, .inr (7, [.ref (a 0), .ref (a 1), .ref (a 2), .ref (a 3)])), ((a 0), .inl (E 0, 400, .inl gf2_0)), ((a 1), .inl (E 0, 400, .inl gf2_1)), ((a 2), .inl (E 0, 400, .inl gf2_2)), ((a 3), .inl (E 0, 400, .inl gf2_3))] H → va_D A [(h0, .inr (7, [.ref (a 0), .ref (a 1), .ref (a 2), .ref (a 3)])), ((a 0), .inl (E 0, 400, .inl gf2_0)), ((a 1), .inl (E 0, 400, .inl gf2_1)), ((a 2), .inl (E 0, 400, .inl gf2_2)), ((a 3), .inl (E 0, 400, .inl gf2_3))] → va_S A s.heap H locs → lv_has ls 2 [(1, .int ix), (0, .ref h0)] → W p l e (headSpec (wl yX7_becomeNew cX7_becomeNew 2 none) (RM 0 0 0)).room s m [Value.ref h0].toArray below meth c H locs 0 0 (MQ below (va_Qv (fun (u : Unit) => True) (mu_B D A (fun (u : Unit) => ([] : va_W))) A) [Value.ref h0].toArray s 0 0 A) (F0 m 2 ls []) := by
    intro N_2
    induction N_2 with
    | zero => intro ix gf2_0 gf2_1 gf2_2 gf2_3 H locs ls hm v0_loop_3 v1_loop_3 _ _ _ _; exfalso; omega
    | succ N_2 ih_1 =>
      intro ix gf2_0 gf2_1 gf2_2 gf2_3 H locs ls hm v0_loop_3 v1_loop_3 hP hD hS hl
      refine lv_iload_n hx hb dX7_becomeNew_2 rfl (lv_at hl 0 rfl) ?_
      refine lv_sipush (v := 400) hx hb dX7_becomeNew_3 (by decide) ?_
      refine lv_icmp_ge (tgt := 43) hx hb dX7_becomeNew_6 (by decide) (fun c_4 => ?_) (fun c_4 => ?_)
      ·
        have ic_4 : 400 ≤ ix.toInt := by first | exact (g_le t_400 rfl).mp c_4 | (have h := mt (g_lt rfl t_400).mpr c_4; omega)
        have hP9 := hP.sub (ws' := ([] : va_W)) [] rfl
        have hD9 := hD.sub (ws' := ([] : va_W)) [] (by decide) rfl
        exact W.vret hx hb hr (fun t ht hW => ⟨⟨(), rfl, trivial, by rw [ht]; exact hP9, hD9⟩, hS.F ht⟩) hS.2.2 dX7_becomeNew_43
      ·
        have ic_4 : ix.toInt < 400 := by first | exact (g_lt rfl t_400).mp c_4 | (have h := mt (g_le t_400 rfl).mpr c_4; omega)
        refine lv_aload_n hx hb dX7_becomeNew_9 rfl (lv_at hl 1 rfl) ?_
        refine va_get (D := D) (ci := 7) (v := .ref (a 0)) (C := RX7) (T := TX7) (N := 4) hx hb htb iX7 hown hK.1 hP 0 rfl rfl 0 (by decide) (htb _ k_348) (fun _ h9 => h9) rfl dX7_becomeNew_10 ?_
        refine lv_iload_n hx hb dX7_becomeNew_13 rfl (lv_at hl 0 rfl) ?_
        refine lv_iconst (v := 0) hx hb dX7_becomeNew_14 (by decide) ?_
        refine va_iast hx hb hK.1 hP hD hS 1 0 rfl rfl (g_in rfl (by omega) (by omega)) dX7_becomeNew_15 (fun H locs hP hD hS => ?_)
        have hP : va_P D vwCl [(h0, .inr (7, [.ref (a 0), .ref (a 1), .ref (a 2), .ref (a 3)])), ((a 0), .inl (E 0, 400, .inl (upd gf2_0 (ix : Int32).toNatClampNeg 0))), ((a 1), .inl (E 0, 400, .inl gf2_1)), ((a 2), .inl (E 0, 400, .inl gf2_2)), ((a 3), .inl (E 0, 400, .inl gf2_3))] H := hP
        have hD : va_D A [(h0, .inr (7, [.ref (a 0), .ref (a 1), .ref (a 2), .ref (a 3)])), ((a 0), .inl (E 0, 400, .inl (upd gf2_0 (ix : Int32).toNatClampNeg 0))), ((a 1), .inl (E 0, 400, .inl gf2_1)), ((a 2), .inl (E 0, 400, .inl gf2_2)), ((a 3), .inl (E 0, 400, .inl gf2_3))] := hD
        refine lv_aload_n hx hb dX7_becomeNew_16 rfl (lv_at hl 1 rfl) ?_
        refine va_get (D := D) (ci := 7) (v := .ref (a 1)) (C := RX7) (T := TX7) (N := 4) hx hb htb iX7 hown hK.1 hP 0 rfl rfl 1 (by decide) (htb _ k_349) (fun _ h9 => h9) rfl dX7_becomeNew_17 ?_
        refine lv_iload_n hx hb dX7_becomeNew_20 rfl (lv_at hl 0 rfl) ?_
        refine lv_iconst (v := (-1)) hx hb dX7_becomeNew_21 (by decide) ?_
        refine va_iast hx hb hK.1 hP hD hS 2 0 rfl rfl (g_in rfl (by omega) (by omega)) dX7_becomeNew_22 (fun H locs hP hD hS => ?_)
        have hP : va_P D vwCl [(h0, .inr (7, [.ref (a 0), .ref (a 1), .ref (a 2), .ref (a 3)])), ((a 0), .inl (E 0, 400, .inl (upd gf2_0 (ix : Int32).toNatClampNeg 0))), ((a 1), .inl (E 0, 400, .inl (upd gf2_1 (ix : Int32).toNatClampNeg (-1)))), ((a 2), .inl (E 0, 400, .inl gf2_2)), ((a 3), .inl (E 0, 400, .inl gf2_3))] H := hP
        have hD : va_D A [(h0, .inr (7, [.ref (a 0), .ref (a 1), .ref (a 2), .ref (a 3)])), ((a 0), .inl (E 0, 400, .inl (upd gf2_0 (ix : Int32).toNatClampNeg 0))), ((a 1), .inl (E 0, 400, .inl (upd gf2_1 (ix : Int32).toNatClampNeg (-1)))), ((a 2), .inl (E 0, 400, .inl gf2_2)), ((a 3), .inl (E 0, 400, .inl gf2_3))] := hD
        refine lv_aload_n hx hb dX7_becomeNew_23 rfl (lv_at hl 1 rfl) ?_
        refine va_get (D := D) (ci := 7) (v := .ref (a 2)) (C := RX7) (T := TX7) (N := 4) hx hb htb iX7 hown hK.1 hP 0 rfl rfl 2 (by decide) (htb _ k_350) (fun _ h9 => h9) rfl dX7_becomeNew_24 ?_
        refine lv_iload_n hx hb dX7_becomeNew_27 rfl (lv_at hl 0 rfl) ?_
        refine lv_iconst (v := 0) hx hb dX7_becomeNew_28 (by decide) ?_
        refine va_iast hx hb hK.1 hP hD hS 3 0 rfl rfl (g_in rfl (by omega) (by omega)) dX7_becomeNew_29 (fun H locs hP hD hS => ?_)
        have hP : va_P D vwCl [(h0, .inr (7, [.ref (a 0), .ref (a 1), .ref (a 2), .ref (a 3)])), ((a 0), .inl (E 0, 400, .inl (upd gf2_0 (ix : Int32).toNatClampNeg 0))), ((a 1), .inl (E 0, 400, .inl (upd gf2_1 (ix : Int32).toNatClampNeg (-1)))), ((a 2), .inl (E 0, 400, .inl (upd gf2_2 (ix : Int32).toNatClampNeg 0))), ((a 3), .inl (E 0, 400, .inl gf2_3))] H := hP
        have hD : va_D A [(h0, .inr (7, [.ref (a 0), .ref (a 1), .ref (a 2), .ref (a 3)])), ((a 0), .inl (E 0, 400, .inl (upd gf2_0 (ix : Int32).toNatClampNeg 0))), ((a 1), .inl (E 0, 400, .inl (upd gf2_1 (ix : Int32).toNatClampNeg (-1)))), ((a 2), .inl (E 0, 400, .inl (upd gf2_2 (ix : Int32).toNatClampNeg 0))), ((a 3), .inl (E 0, 400, .inl gf2_3))] := hD
        refine lv_aload_n hx hb dX7_becomeNew_30 rfl (lv_at hl 1 rfl) ?_
        refine va_get (D := D) (ci := 7) (v := .ref (a 3)) (C := RX7) (T := TX7) (N := 4) hx hb htb iX7 hown hK.1 hP 0 rfl rfl 3 (by decide) (htb _ k_351) (fun _ h9 => h9) rfl dX7_becomeNew_31 ?_
        refine lv_iload_n hx hb dX7_becomeNew_34 rfl (lv_at hl 0 rfl) ?_
        refine lv_iconst (v := (-1)) hx hb dX7_becomeNew_35 (by decide) ?_
        refine va_iast hx hb hK.1 hP hD hS 4 0 rfl rfl (g_in rfl (by omega) (by omega)) dX7_becomeNew_36 (fun H locs hP hD hS => ?_)
        have hP : va_P D vwCl [(h0, .inr (7, [.ref (a 0), .ref (a 1), .ref (a 2), .ref (a 3)])), ((a 0), .inl (E 0, 400, .inl (upd gf2_0 (ix : Int32).toNatClampNeg 0))), ((a 1), .inl (E 0, 400, .inl (upd gf2_1 (ix : Int32).toNatClampNeg (-1)))), ((a 2), .inl (E 0, 400, .inl (upd gf2_2 (ix : Int32).toNatClampNeg 0))), ((a 3), .inl (E 0, 400, .inl (upd gf2_3 (ix : Int32).toNatClampNeg (-1))))] H := hP
        have hD : va_D A [(h0, .inr (7, [.ref (a 0), .ref (a 1), .ref (a 2), .ref (a 3)])), ((a 0), .inl (E 0, 400, .inl (upd gf2_0 (ix : Int32).toNatClampNeg 0))), ((a 1), .inl (E 0, 400, .inl (upd gf2_1 (ix : Int32).toNatClampNeg (-1)))), ((a 2), .inl (E 0, 400, .inl (upd gf2_2 (ix : Int32).toNatClampNeg 0))), ((a 3), .inl (E 0, 400, .inl (upd gf2_3 (ix : Int32).toNatClampNeg (-1))))] := hD
        obtain ⟨z_5, ez_5⟩ : ∃ y : Int32, y = ix + 1 := ⟨_, rfl⟩
        have jz_5 : z_5.toInt = ix.toInt + 1 := by rw [ez_5]; exact g_add rfl t_1 (by omega) (by omega)
        refine lv_iinc (v := z_5) (lv' := [(1, .int z_5), (0, .ref h0)]) hx hb dX7_becomeNew_37 hl (k := 0) rfl (by rw [ez_5]; rfl) (by decide) rfl (fun ls hl => ?_)
        refine lv_goto (tgt := 2) hx hb dX7_becomeNew_40 (by decide) ?_
        exact ih_1 z_5 (upd gf2_0 (ix : Int32).toNatClampNeg 0) (upd gf2_1 (ix : Int32).toNatClampNeg (-1)) (upd gf2_2 (ix : Int32).toNatClampNeg 0) (upd gf2_3 (ix : Int32).toNatClampNeg (-1)) _ _ _ (by omega) (by omega) (by omega) hP hD hS (lv_sub hl [0, 1] rfl)
  exact loop_3 401 0 f0 f1 f2 f3 _ _ _ (by have h0 := t_0; omega) (by have h0 := t_0; omega) (by have h0 := t_0; omega) hP hD hS (lv_sub hl [0, 1] rfl)
set_option maxHeartbeats 4000000 in
set_option maxRecDepth 100000 in
theorem c_X8_bringWatch (l : Launch) (D : va_G) (E : Nat → Nat) (h0 : Nat) (a : Nat → Nat) (p0 : Int32) (sz : Nat)  : Met l yX8_bringWatch (wl yX8_bringWatch cX8_bringWatch 2 none) (RM 2 5 1604) (mu_P D E [.ref h0, .int p0] [(h0, .inr (8, xF a 0)), ((a 3), .inl (E 3, 16, .inr (.inr (.inr (.inr (fun _ => none))))))] sz) (va_Qv (fun (u : Unit) => True) (mu_B D (va_A [(h0, .inr (8, xF a 0)), ((a 3), .inl (E 3, 16, .inr (.inr (.inr (.inr (fun _ => none))))))] sz) (fun (u : Unit) => ([] : va_W))) (va_A [(h0, .inr (8, xF a 0)), ((a 3), .inl (E 3, 16, .inr (.inr (.inr (.inr (fun _ => none))))))] sz)) 5 1604 (va_A [(h0, .inr (8, xF a 0)), ((a 3), .inl (E 3, 16, .inr (.inr (.inr (.inr (fun _ => none))))))] sz) := by
  refine Met.ofW (cc := cX8_bringWatch) (maxL := 2) (ret := none) (by decide) rfl ?_
  intro p e s m args below meth c s₁ B hml hv
  obtain ⟨rfl, hsz, hP, hK, hD0⟩ := hv
  have hx := B.exec
  have hb := B.bytes
  have hr := B.returns
  have hts := atoms_spec (ws := wl yX8_bringWatch cX8_bringWatch 2 none) B.pre
  have htb : ∀ w ∈ tb, w.before _ s = true := fun w h => hts w (List.mem_cons_of_mem _ h)
  have hown : s.vm.findClass RX8 = some m.cls := findClass_of_methodNamed B.named
  have hlocks := B.notSynchronized
  subst hsz
  have hD := hD0.self (sz := s.heap.size)
  generalize hAe : va_A [(h0, .inr (8, xF a 0)), ((a 3), .inl (E 3, 16, .inr (.inr (.inr (.inr (fun _ => none))))))] s.heap.size = A at hD ⊢
  have hA : ∀ q : Nat, s.heap.size ≤ q → A q := fun q h => by rw [← hAe]; exact Or.inr h
  have hS : va_S A s.heap s.heap [] := va_S.rf
  have hP : va_P D vwCl [(h0, .inr (8, xF a 0)), ((a 3), .inl (E 3, 16, .inr (.inr (.inr (.inr (fun _ => none))))))] s.heap := hP
  have hl := lv_entry ([.ref h0, .int p0]) (n := 2) (Nat.le_of_ble_eq_true rfl)
  rw [lg_entry_eq]
  generalize (lg_sl ([.ref h0, .int p0]) ++ List.replicate (2 - (lg_sl ([.ref h0, .int p0])).length) Slot.unset).toArray = ls at hl ⊢
  have hl : lv_has ls 2 [(0, .ref h0), (1, .int p0)] := hl
  have lo_p0 := i_lo p0
  have hi_p0 := i_hi p0
  refine lv_iload_n hx hb dX8_bringWatch_0 rfl (lv_at hl 1 rfl) ?_
  refine callRS (rest := []) (As := [.int p0]) hx hb hml hown htb hK (c_X8_isPlace l D E p0 ) ok_X8_isPlace k_333 k_334 k_1 k_335 ⟨(Nat.le_of_ble_eq_true rfl), (Nat.le_of_ble_eq_true rfl)⟩ ⟨(Nat.le_of_ble_eq_true rfl), (Nat.le_of_ble_eq_true rfl)⟩ hl.1 (Nat.le_of_ble_eq_true rfl) rfl rfl dX8_bringWatch_1 (hP.sub (ws' := ([] : va_W)) [] rfl) (fun r_2 hw_1 => ?_)
  rcases hw_1 with ⟨hr_2, hw_1⟩ | ⟨hr_2, hw_1⟩
  ·
    refine W_top (y := .int 1) (by rw [hr_2]) ?_
    refine lv_if_ne (tgt := 8) hx hb dX8_bringWatch_4 (by decide) (fun c_3 => ?_) (fun c_3 => absurd c_3 (by decide))
    refine lv_aload_n hx hb dX8_bringWatch_8 rfl (lv_at hl 0 rfl) ?_
    refine va_get (D := D) (ci := 8) (v := .ref (a 3)) (C := RX8) (T := TX8) (N := 14) hx hb htb iX8 hown hK.1 hP 0 rfl rfl 3 (by decide) (htb _ k_275) (fun _ h9 => h9) rfl dX8_bringWatch_9 ?_
    refine lv_iload_n hx hb dX8_bringWatch_12 rfl (lv_at hl 1 rfl) ?_
    refine va_aldq hx hb hK.1 hP 1 3 rfl rfl (g_in rfl (by omega) (by omega)) dX8_bringWatch_13 ?_
    refine W_top (y := .null) rfl ?_
    refine lv_ifnonnullN hx hb dX8_bringWatch_14 ?_
    refine lv_aload_n hx hb dX8_bringWatch_17 rfl (lv_at hl 0 rfl) ?_
    refine va_get (D := D) (ci := 8) (v := .ref (a 3)) (C := RX8) (T := TX8) (N := 14) hx hb htb iX8 hown hK.1 hP 0 rfl rfl 3 (by decide) (htb _ k_275) (fun _ h9 => h9) rfl dX8_bringWatch_18 ?_
    refine lv_iload_n hx hb dX8_bringWatch_21 rfl (lv_at hl 1 rfl) ?_
    refine va_new (ci := 7) (fs := [.null, .null, .null, .null]) (C := RX7) (T := TX7) (N := 4) hx hb htb iX7 tyX7 tyX7_ok hown (htb _ k_24) (htb _ k_343) (htb _ k_10) hK.1 hP hD hS hA rfl (by decide) (Nat.le_of_ble_eq_true rfl) (Nat.le_of_ble_eq_true rfl) dX8_bringWatch_22 (fun q_4 H hP hD hS => ?_)
    have hP : va_P D vwCl [(h0, .inr (8, xF a 0)), ((a 3), .inl (E 3, 16, .inr (.inr (.inr (.inr (fun _ => none)))))), (q_4, .inr (7, [.null, .null, .null, .null]))] H := hP
    have hD : va_D A [(h0, .inr (8, xF a 0)), ((a 3), .inl (E 3, 16, .inr (.inr (.inr (.inr (fun _ => none)))))), (q_4, .inr (7, [.null, .null, .null, .null]))] := hD
    refine W.widen (k := 1) (n := 4) (Nat.le_of_ble_eq_true rfl) (Nat.le_of_ble_eq_true rfl) ?_
    refine lv_dup hx hb dX8_bringWatch_25 rfl ?_
    have hPc := hP.sub (ws' := [(q_4, .inr (7, [.null, .null, .null, .null]))]) [2] rfl
    have hDc := hD.sub (ws' := [(q_4, .inr (7, [.null, .null, .null, .null]))]) [2] (by decide) rfl
    refine aft_v (runMN (rest := [.ref q_4, .int p0, .ref (a 3)]) (As := []) hx hb hml hown htb hK (c_X7_init l D E q_4 _ ) ok_X7_init rfl (show Cond.methodLinkNest RX8 301 yX7_init RX8 ∈ nestW by decide +kernel) k_345 k_10 k_346 ⟨(Nat.le_of_ble_eq_true rfl), (Nat.le_of_ble_eq_true rfl)⟩ ⟨(Nat.le_of_ble_eq_true rfl), (Nat.le_of_ble_eq_true rfl)⟩ hl.1 (Nat.le_of_ble_eq_true rfl) rfl rfl dX8_bringWatch_26 hPc hDc) hP hD hS hA [2] [0, 1] (wr := [(h0, .inr (8, xF a 0)), ((a 3), .inl (E 3, 16, .inr (.inr (.inr (.inr (fun _ => none))))))]) rfl rfl (by decide) (by decide) (fun u_5 H locs hw_6 hP hD hS => ?_)
    clear hPc hDc
    have hP : va_P D vwCl [(h0, .inr (8, xF a 0)), ((a 3), .inl (E 3, 16, .inr (.inr (.inr (.inr (fun _ => none)))))), (q_4, .inr (7, [.ref (u_5 0), .ref (u_5 1), .ref (u_5 2), .ref (u_5 3)])), ((u_5 0), .inl (E 0, 400, .inl (fun _ => 0))), ((u_5 1), .inl (E 0, 400, .inl (fun _ => 0))), ((u_5 2), .inl (E 0, 400, .inl (fun _ => 0))), ((u_5 3), .inl (E 0, 400, .inl (fun _ => 0)))] H := hP
    have hD : va_D A [(h0, .inr (8, xF a 0)), ((a 3), .inl (E 3, 16, .inr (.inr (.inr (.inr (fun _ => none)))))), (q_4, .inr (7, [.ref (u_5 0), .ref (u_5 1), .ref (u_5 2), .ref (u_5 3)])), ((u_5 0), .inl (E 0, 400, .inl (fun _ => 0))), ((u_5 1), .inl (E 0, 400, .inl (fun _ => 0))), ((u_5 2), .inl (E 0, 400, .inl (fun _ => 0))), ((u_5 3), .inl (E 0, 400, .inl (fun _ => 0)))] := hD
    refine W.widen (k := 5) (n := 1604) (Nat.le_of_ble_eq_true rfl) (Nat.le_of_ble_eq_true rfl) ?_
    refine va_astq hx hb hK.1 hP hD hS 1 3 2 7 rfl rfl rfl rfl (g_in rfl (by omega) (by omega)) dX8_bringWatch_29 (fun H locs hP hD hS => ?_)
    have hP : va_P D vwCl [(h0, .inr (8, xF a 0)), ((a 3), .inl (E 3, 16, .inr (.inr (.inr (.inr (va_up (fun _ => none) (p0 : Int32).toNatClampNeg (some q_4))))))), (q_4, .inr (7, [.ref (u_5 0), .ref (u_5 1), .ref (u_5 2), .ref (u_5 3)])), ((u_5 0), .inl (E 0, 400, .inl (fun _ => 0))), ((u_5 1), .inl (E 0, 400, .inl (fun _ => 0))), ((u_5 2), .inl (E 0, 400, .inl (fun _ => 0))), ((u_5 3), .inl (E 0, 400, .inl (fun _ => 0)))] H := hP
    have hD : va_D A [(h0, .inr (8, xF a 0)), ((a 3), .inl (E 3, 16, .inr (.inr (.inr (.inr (va_up (fun _ => none) (p0 : Int32).toNatClampNeg (some q_4))))))), (q_4, .inr (7, [.ref (u_5 0), .ref (u_5 1), .ref (u_5 2), .ref (u_5 3)])), ((u_5 0), .inl (E 0, 400, .inl (fun _ => 0))), ((u_5 1), .inl (E 0, 400, .inl (fun _ => 0))), ((u_5 2), .inl (E 0, 400, .inl (fun _ => 0))), ((u_5 3), .inl (E 0, 400, .inl (fun _ => 0)))] := hD
    refine lv_aload_n hx hb dX8_bringWatch_30 rfl (lv_at hl 0 rfl) ?_
    refine va_get (D := D) (ci := 8) (v := .ref (a 3)) (C := RX8) (T := TX8) (N := 14) hx hb htb iX8 hown hK.1 hP 0 rfl rfl 3 (by decide) (htb _ k_275) (fun _ h9 => h9) rfl dX8_bringWatch_31 ?_
    refine lv_iload_n hx hb dX8_bringWatch_34 rfl (lv_at hl 1 rfl) ?_
    refine va_aldq hx hb hK.1 hP 1 3 rfl rfl (g_in rfl (by omega) (by omega)) dX8_bringWatch_35 ?_
    refine W_top (y := .ref q_4) (by simp [va_up, va_rf]) ?_
    have hPc := hP.sub (ws' := [(q_4, .inr (7, [.ref (u_5 0), .ref (u_5 1), .ref (u_5 2), .ref (u_5 3)])), ((u_5 0), .inl (E 0, 400, .inl (fun _ => 0))), ((u_5 1), .inl (E 0, 400, .inl (fun _ => 0))), ((u_5 2), .inl (E 0, 400, .inl (fun _ => 0))), ((u_5 3), .inl (E 0, 400, .inl (fun _ => 0)))]) [2, 3, 4, 5, 6] rfl
    have hDc := hD.sub (ws' := [(q_4, .inr (7, [.ref (u_5 0), .ref (u_5 1), .ref (u_5 2), .ref (u_5 3)])), ((u_5 0), .inl (E 0, 400, .inl (fun _ => 0))), ((u_5 1), .inl (E 0, 400, .inl (fun _ => 0))), ((u_5 2), .inl (E 0, 400, .inl (fun _ => 0))), ((u_5 3), .inl (E 0, 400, .inl (fun _ => 0)))]) [2, 3, 4, 5, 6] (by decide) rfl
    refine aft_v (runMV (rest := []) (As := []) hx hb hml hown htb hK (c_X7_becomeNew l D E q_4 u_5 (fun _ => 0) (fun _ => 0) (fun _ => 0) (fun _ => 0) _ ) ok_X7_becomeNew k_361 k_362 k_363 k_10 k_364 ⟨(Nat.le_of_ble_eq_true rfl), (Nat.le_of_ble_eq_true rfl)⟩ ⟨(Nat.le_of_ble_eq_true rfl), (Nat.le_of_ble_eq_true rfl)⟩ hl.1 (Nat.le_of_ble_eq_true rfl) rfl rfl dX8_bringWatch_36 hPc hDc rfl rfl 0 rfl) hP hD hS hA [2, 3, 4, 5, 6] [0, 1] (wr := [(h0, .inr (8, xF a 0)), ((a 3), .inl (E 3, 16, .inr (.inr (.inr (.inr (va_up (fun _ => none) (p0 : Int32).toNatClampNeg (some q_4)))))))]) rfl rfl (by decide) (by decide) (fun u_8 H locs hw_9 hP hD hS => ?_)
    clear hPc hDc
    have hP : va_P D vwCl [(h0, .inr (8, xF a 0)), ((a 3), .inl (E 3, 16, .inr (.inr (.inr (.inr (va_up (fun _ => none) (p0 : Int32).toNatClampNeg (some q_4)))))))] H := hP
    have hD : va_D A [(h0, .inr (8, xF a 0)), ((a 3), .inl (E 3, 16, .inr (.inr (.inr (.inr (va_up (fun _ => none) (p0 : Int32).toNatClampNeg (some q_4)))))))] := hD
    have hP9 := hP.sub (ws' := ([] : va_W)) [] rfl
    have hD9 := hD.sub (ws' := ([] : va_W)) [] (by decide) rfl
    exact W.vret hx hb hr (fun t ht hW => ⟨⟨(), rfl, trivial, by rw [ht]; exact hP9, hD9⟩, hS.F ht⟩) hS.2.2 dX8_bringWatch_39
  ·
    refine W_top (y := .int 0) (by rw [hr_2]) ?_
    refine lv_if_ne (tgt := 8) hx hb dX8_bringWatch_4 (by decide) (fun c_11 => absurd (by decide) c_11) (fun c_11 => ?_)
    refine W.widen (k := 5) (n := 1604) (Nat.le_of_ble_eq_true rfl) (Nat.le_of_ble_eq_true rfl) ?_
    have hP9 := hP.sub (ws' := ([] : va_W)) [] rfl
    have hD9 := hD.sub (ws' := ([] : va_W)) [] (by decide) rfl
    exact W.vret hx hb hr (fun t ht hW => ⟨⟨(), rfl, trivial, by rw [ht]; exact hP9, hD9⟩, hS.F ht⟩) hS.2.2 dX8_bringWatch_7
set_option maxHeartbeats 4000000 in
set_option maxRecDepth 100000 in
theorem c_X8_put (l : Launch) (D : va_G) (E : Nat → Nat) (h0 : Nat) (a : Nat → Nat) (p0 : Int32) (p1 : Int32) (p2 : Int32) (sz : Nat)  : Met l yX8_put (wl yX8_put cX8_put 4 (some .int)) (RM 3 5 1604) (mu_P D E [.ref h0, .int p0, .int p1, .int p2] [(h0, .inr (8, xF a 0)), ((a 1), .inl (E 0, 16, .inl (fun _ => -5))), ((a 2), .inl (E 0, 16, .inl (fun _ => 0))), ((a 3), .inl (E 3, 16, .inr (.inr (.inr (.inr (fun _ => none))))))] sz) (va_Qi (fun (r : Int32) (u : Unit) => (r = 1 ∧ ((0 ≤ p0.toInt ∧ p0.toInt ≤ 15) ∧ ((p1.toInt = 0 ∧ p2.toInt = 0) ∨ (p1.toInt = 1 ∧ -50 ≤ p2.toInt ∧ p2.toInt ≤ 50) ∨ p1.toInt = 2))) ∨ (r = (-1) ∧ ¬ ((0 ≤ p0.toInt ∧ p0.toInt ≤ 15) ∧ ((p1.toInt = 0 ∧ p2.toInt = 0) ∨ (p1.toInt = 1 ∧ -50 ≤ p2.toInt ∧ p2.toInt ≤ 50) ∨ p1.toInt = 2)))) (mu_B D (va_A [(h0, .inr (8, xF a 0)), ((a 1), .inl (E 0, 16, .inl (fun _ => -5))), ((a 2), .inl (E 0, 16, .inl (fun _ => 0))), ((a 3), .inl (E 3, 16, .inr (.inr (.inr (.inr (fun _ => none))))))] sz) (fun (u : Unit) => ([] : va_W))) (va_A [(h0, .inr (8, xF a 0)), ((a 1), .inl (E 0, 16, .inl (fun _ => -5))), ((a 2), .inl (E 0, 16, .inl (fun _ => 0))), ((a 3), .inl (E 3, 16, .inr (.inr (.inr (.inr (fun _ => none))))))] sz)) 5 1604 (va_A [(h0, .inr (8, xF a 0)), ((a 1), .inl (E 0, 16, .inl (fun _ => -5))), ((a 2), .inl (E 0, 16, .inl (fun _ => 0))), ((a 3), .inl (E 3, 16, .inr (.inr (.inr (.inr (fun _ => none))))))] sz) := by
  refine Met.ofW (cc := cX8_put) (maxL := 4) (ret := (some .int)) (by decide) rfl ?_
  intro p e s m args below meth c s₁ B hml hv
  obtain ⟨rfl, hsz, hP, hK, hD0⟩ := hv
  have hx := B.exec
  have hb := B.bytes
  have hr := B.returns
  have hts := atoms_spec (ws := wl yX8_put cX8_put 4 (some .int)) B.pre
  have htb : ∀ w ∈ tb, w.before _ s = true := fun w h => hts w (List.mem_cons_of_mem _ h)
  have hown : s.vm.findClass RX8 = some m.cls := findClass_of_methodNamed B.named
  have hlocks := B.notSynchronized
  subst hsz
  have hD := hD0.self (sz := s.heap.size)
  generalize hAe : va_A [(h0, .inr (8, xF a 0)), ((a 1), .inl (E 0, 16, .inl (fun _ => -5))), ((a 2), .inl (E 0, 16, .inl (fun _ => 0))), ((a 3), .inl (E 3, 16, .inr (.inr (.inr (.inr (fun _ => none))))))] s.heap.size = A at hD ⊢
  have hA : ∀ q : Nat, s.heap.size ≤ q → A q := fun q h => by rw [← hAe]; exact Or.inr h
  have hS : va_S A s.heap s.heap [] := va_S.rf
  have hP : va_P D vwCl [(h0, .inr (8, xF a 0)), ((a 1), .inl (E 0, 16, .inl (fun _ => -5))), ((a 2), .inl (E 0, 16, .inl (fun _ => 0))), ((a 3), .inl (E 3, 16, .inr (.inr (.inr (.inr (fun _ => none))))))] s.heap := hP
  have hl := lv_entry ([.ref h0, .int p0, .int p1, .int p2]) (n := 4) (Nat.le_of_ble_eq_true rfl)
  rw [lg_entry_eq]
  generalize (lg_sl ([.ref h0, .int p0, .int p1, .int p2]) ++ List.replicate (4 - (lg_sl ([.ref h0, .int p0, .int p1, .int p2])).length) Slot.unset).toArray = ls at hl ⊢
  have hl : lv_has ls 4 [(0, .ref h0), (1, .int p0), (2, .int p1), (3, .int p2)] := hl
  have lo_p0 := i_lo p0
  have hi_p0 := i_hi p0
  have lo_p1 := i_lo p1
  have hi_p1 := i_hi p1
  have lo_p2 := i_lo p2
  have hi_p2 := i_hi p2
  refine lv_iload_n hx hb dX8_put_0 rfl (lv_at hl 1 rfl) ?_
  refine callRS (rest := []) (As := [.int p0]) hx hb hml hown htb hK (c_X8_isPlace l D E p0 ) ok_X8_isPlace k_333 k_334 k_1 k_335 ⟨(Nat.le_of_ble_eq_true rfl), (Nat.le_of_ble_eq_true rfl)⟩ ⟨(Nat.le_of_ble_eq_true rfl), (Nat.le_of_ble_eq_true rfl)⟩ hl.1 (Nat.le_of_ble_eq_true rfl) rfl rfl dX8_put_1 (hP.sub (ws' := ([] : va_W)) [] rfl) (fun r_2 hw_1 => ?_)
  rcases hw_1 with ⟨hr_2, hw_1⟩ | ⟨hr_2, hw_1⟩
  ·
    refine W_top (y := .int 1) (by rw [hr_2]) ?_
    refine lv_if_eq (tgt := 15) hx hb dX8_put_4 (by decide) (fun c_3 => absurd c_3 (by decide)) (fun c_3 => ?_)
    refine lv_iload_n hx hb dX8_put_7 rfl (lv_at hl 2 rfl) ?_
    refine lv_iload_n hx hb dX8_put_8 rfl (lv_at hl 3 rfl) ?_
    refine callRS (rest := []) (As := [.int p1, .int p2]) hx hb hml hown htb hK (c_X8_fitsKind l D E p1 p2 ) ok_X8_fitsKind k_336 k_337 k_1 k_338 ⟨(Nat.le_of_ble_eq_true rfl), (Nat.le_of_ble_eq_true rfl)⟩ ⟨(Nat.le_of_ble_eq_true rfl), (Nat.le_of_ble_eq_true rfl)⟩ hl.1 (Nat.le_of_ble_eq_true rfl) rfl rfl dX8_put_9 (hP.sub (ws' := ([] : va_W)) [] rfl) (fun r_5 hw_4 => ?_)
    rcases hw_4 with ⟨hr_5, hw_4⟩ | ⟨hr_5, hw_4⟩
    ·
      refine W_top (y := .int 1) (by rw [hr_5]) ?_
      refine lv_if_ne (tgt := 17) hx hb dX8_put_12 (by decide) (fun c_6 => ?_) (fun c_6 => absurd c_6 (by decide))
      refine lv_aload_n hx hb dX8_put_17 rfl (lv_at hl 0 rfl) ?_
      refine va_get (D := D) (ci := 8) (v := .ref (a 1)) (C := RX8) (T := TX8) (N := 14) hx hb htb iX8 hown hK.1 hP 0 rfl rfl 1 (by decide) (htb _ k_273) (fun _ h9 => h9) rfl dX8_put_18 ?_
      refine lv_iload_n hx hb dX8_put_21 rfl (lv_at hl 1 rfl) ?_
      refine va_iald hx hb hK.1 hP 1 0 rfl rfl (g_in rfl (by omega) (by omega)) dX8_put_22 ?_
      refine W_top (y := .int (-5)) rfl ?_
      refine lv_bipush (v := (-5)) hx hb dX8_put_23 (by decide) ?_
      refine lv_icmp_eq (tgt := 31) hx hb dX8_put_25 (by decide) (fun c_7 => ?_) (fun c_7 => absurd (by decide) c_7)
      refine lv_aload_n hx hb dX8_put_31 rfl (lv_at hl 0 rfl) ?_
      refine va_get (D := D) (ci := 8) (v := .ref (a 1)) (C := RX8) (T := TX8) (N := 14) hx hb htb iX8 hown hK.1 hP 0 rfl rfl 1 (by decide) (htb _ k_273) (fun _ h9 => h9) rfl dX8_put_32 ?_
      refine lv_iload_n hx hb dX8_put_35 rfl (lv_at hl 1 rfl) ?_
      refine lv_iload_n hx hb dX8_put_36 rfl (lv_at hl 2 rfl) ?_
      refine va_iast hx hb hK.1 hP hD hS 1 0 rfl rfl (g_in rfl (by omega) (by omega)) dX8_put_37 (fun H locs hP hD hS => ?_)
      have hP : va_P D vwCl [(h0, .inr (8, xF a 0)), ((a 1), .inl (E 0, 16, .inl (upd (fun _ => -5) (p0 : Int32).toNatClampNeg p1))), ((a 2), .inl (E 0, 16, .inl (fun _ => 0))), ((a 3), .inl (E 3, 16, .inr (.inr (.inr (.inr (fun _ => none))))))] H := hP
      have hD : va_D A [(h0, .inr (8, xF a 0)), ((a 1), .inl (E 0, 16, .inl (upd (fun _ => -5) (p0 : Int32).toNatClampNeg p1))), ((a 2), .inl (E 0, 16, .inl (fun _ => 0))), ((a 3), .inl (E 3, 16, .inr (.inr (.inr (.inr (fun _ => none))))))] := hD
      refine lv_aload_n hx hb dX8_put_38 rfl (lv_at hl 0 rfl) ?_
      refine va_get (D := D) (ci := 8) (v := .ref (a 2)) (C := RX8) (T := TX8) (N := 14) hx hb htb iX8 hown hK.1 hP 0 rfl rfl 2 (by decide) (htb _ k_274) (fun _ h9 => h9) rfl dX8_put_39 ?_
      refine lv_iload_n hx hb dX8_put_42 rfl (lv_at hl 1 rfl) ?_
      refine lv_iload_n hx hb dX8_put_43 rfl (lv_at hl 3 rfl) ?_
      refine va_iast hx hb hK.1 hP hD hS 2 0 rfl rfl (g_in rfl (by omega) (by omega)) dX8_put_44 (fun H locs hP hD hS => ?_)
      have hP : va_P D vwCl [(h0, .inr (8, xF a 0)), ((a 1), .inl (E 0, 16, .inl (upd (fun _ => -5) (p0 : Int32).toNatClampNeg p1))), ((a 2), .inl (E 0, 16, .inl (upd (fun _ => 0) (p0 : Int32).toNatClampNeg p2))), ((a 3), .inl (E 3, 16, .inr (.inr (.inr (.inr (fun _ => none))))))] H := hP
      have hD : va_D A [(h0, .inr (8, xF a 0)), ((a 1), .inl (E 0, 16, .inl (upd (fun _ => -5) (p0 : Int32).toNatClampNeg p1))), ((a 2), .inl (E 0, 16, .inl (upd (fun _ => 0) (p0 : Int32).toNatClampNeg p2))), ((a 3), .inl (E 3, 16, .inr (.inr (.inr (.inr (fun _ => none))))))] := hD
      refine lv_iload_n hx hb dX8_put_45 rfl (lv_at hl 2 rfl) ?_
      refine lv_iconst (v := 2) hx hb dX8_put_46 (by decide) ?_
      refine lv_icmp_eq (tgt := 55) hx hb dX8_put_47 (by decide) (fun c_8 => ?_) (fun c_8 => ?_)
      ·
        have ic_8 : p1.toInt = 2 := (g_eq rfl t_2).mp c_8
        refine lv_iconst (v := 1) hx hb dX8_put_55 (by decide) ?_
        refine W.widen (k := 5) (n := 1604) (Nat.le_of_ble_eq_true rfl) (Nat.le_of_ble_eq_true rfl) ?_
        have hP9 := hP.sub (ws' := ([] : va_W)) [] rfl
        have hD9 := hD.sub (ws' := ([] : va_W)) [] (by decide) rfl
        exact W.iret (v := 1) hx hb hr (fun t ht hW => ⟨⟨1, (), rfl, by first | exact Or.inl ⟨rfl, by omega⟩ | (exfalso; omega), by rw [ht]; exact hP9, hD9⟩, hS.F ht⟩) hS.2.2 dX8_put_56
      ·
        have ic_8 : p1.toInt ≠ 2 := mt (g_eq rfl t_2).mpr c_8
        refine lv_aload_n hx hb dX8_put_50 rfl (lv_at hl 0 rfl) ?_
        refine lv_iload_n hx hb dX8_put_51 rfl (lv_at hl 1 rfl) ?_
        have hPc := hP.sub (ws' := [(h0, .inr (8, xF a 0)), ((a 3), .inl (E 3, 16, .inr (.inr (.inr (.inr (fun _ => none))))))]) [0, 3] rfl
        have hDc := hD.sub (ws' := [(h0, .inr (8, xF a 0)), ((a 3), .inl (E 3, 16, .inr (.inr (.inr (.inr (fun _ => none))))))]) [0, 3] (by decide) rfl
        refine aft_v (runMV (rest := []) (As := [.int p0]) hx hb hml hown htb hK (c_X8_bringWatch l D E h0 a p0 _ ) ok_X8_bringWatch k_339 k_341 ks_0 k_1 k_342 ⟨(Nat.le_of_ble_eq_true rfl), (Nat.le_of_ble_eq_true rfl)⟩ ⟨(Nat.le_of_ble_eq_true rfl), (Nat.le_of_ble_eq_true rfl)⟩ hl.1 (Nat.le_of_ble_eq_true rfl) rfl rfl dX8_put_52 hPc hDc rfl rfl 0 rfl) hP hD hS hA [0, 3] [1, 2] (wr := [((a 1), .inl (E 0, 16, .inl (upd (fun _ => -5) (p0 : Int32).toNatClampNeg p1))), ((a 2), .inl (E 0, 16, .inl (upd (fun _ => 0) (p0 : Int32).toNatClampNeg p2)))]) rfl rfl (by decide) (by decide) (fun u_9 H locs hw_10 hP hD hS => ?_)
        clear hPc hDc
        have hP : va_P D vwCl [((a 1), .inl (E 0, 16, .inl (upd (fun _ => -5) (p0 : Int32).toNatClampNeg p1))), ((a 2), .inl (E 0, 16, .inl (upd (fun _ => 0) (p0 : Int32).toNatClampNeg p2)))] H := hP
        have hD : va_D A [((a 1), .inl (E 0, 16, .inl (upd (fun _ => -5) (p0 : Int32).toNatClampNeg p1))), ((a 2), .inl (E 0, 16, .inl (upd (fun _ => 0) (p0 : Int32).toNatClampNeg p2)))] := hD
        refine W.widen (k := 5) (n := 1604) (Nat.le_of_ble_eq_true rfl) (Nat.le_of_ble_eq_true rfl) ?_
        refine lv_iconst (v := 1) hx hb dX8_put_55 (by decide) ?_
        have hP9 := hP.sub (ws' := ([] : va_W)) [] rfl
        have hD9 := hD.sub (ws' := ([] : va_W)) [] (by decide) rfl
        exact W.iret (v := 1) hx hb hr (fun t ht hW => ⟨⟨1, (), rfl, by first | exact Or.inl ⟨rfl, by omega⟩ | (exfalso; omega), by rw [ht]; exact hP9, hD9⟩, hS.F ht⟩) hS.2.2 dX8_put_56
    ·
      refine W_top (y := .int 0) (by rw [hr_5]) ?_
      refine lv_if_ne (tgt := 17) hx hb dX8_put_12 (by decide) (fun c_12 => absurd (by decide) c_12) (fun c_12 => ?_)
      refine lv_iconst (v := (-1)) hx hb dX8_put_15 (by decide) ?_
      refine W.widen (k := 5) (n := 1604) (Nat.le_of_ble_eq_true rfl) (Nat.le_of_ble_eq_true rfl) ?_
      have hP9 := hP.sub (ws' := ([] : va_W)) [] rfl
      have hD9 := hD.sub (ws' := ([] : va_W)) [] (by decide) rfl
      exact W.iret (v := (-1)) hx hb hr (fun t ht hW => ⟨⟨(-1), (), rfl, by first | exact Or.inr ⟨rfl, by omega⟩ | (exfalso; omega), by rw [ht]; exact hP9, hD9⟩, hS.F ht⟩) hS.2.2 dX8_put_16
  ·
    refine W_top (y := .int 0) (by rw [hr_2]) ?_
    refine lv_if_eq (tgt := 15) hx hb dX8_put_4 (by decide) (fun c_13 => ?_) (fun c_13 => absurd (by decide) c_13)
    refine lv_iconst (v := (-1)) hx hb dX8_put_15 (by decide) ?_
    refine W.widen (k := 5) (n := 1604) (Nat.le_of_ble_eq_true rfl) (Nat.le_of_ble_eq_true rfl) ?_
    have hP9 := hP.sub (ws' := ([] : va_W)) [] rfl
    have hD9 := hD.sub (ws' := ([] : va_W)) [] (by decide) rfl
    exact W.iret (v := (-1)) hx hb hr (fun t ht hW => ⟨⟨(-1), (), rfl, by first | exact Or.inr ⟨rfl, by omega⟩ | (exfalso; omega), by rw [ht]; exact hP9, hD9⟩, hS.F ht⟩) hS.2.2 dX8_put_16
end
section
set_option maxHeartbeats 4000000 in
set_option maxRecDepth 100000 in
theorem c_X8_init (l : Launch) (D : va_G) (E : Nat → Nat) (h0 : Nat) (sz : Nat)  : Met l yX8_init (wl yX8_init cX8_init 2 none) (RM 3 77 3159) (mu_P D E [.ref h0] [(h0, .inr (8, [.null, .null, .null, .null, .null, .null, .null, .null, .null, .null, .null, .null, .null, .int 0]))] sz) (va_Qv (fun (u : (Nat → Nat) × (Nat → Nat → Nat) × (Nat → Int32)) => True) (mu_B D (va_A [(h0, .inr (8, [.null, .null, .null, .null, .null, .null, .null, .null, .null, .null, .null, .null, .null, .int 0]))] sz) (fun (u : (Nat → Nat) × (Nat → Nat → Nat) × (Nat → Int32)) => [(h0, .inr (8, xF u.1 0)), ((u.1 0), .inl (E 0, 400, .inl u.2.2)), ((u.1 1), .inl (E 0, 16, .inl (fun _ => -5))), ((u.1 2), .inl (E 0, 16, .inl (fun _ => 0))), ((u.1 3), .inl (E 3, 16, .inr (.inr (.inr (.inr (fun _ => none)))))), ((u.1 4), .inl (E 4, 5, .inr (.inr (.inr (.inr (fun j => some (u.1 (13 + j)))))))), ((u.1 13), .inr (5, sF (u.2.1 0))), ((u.1 14), .inr (5, sF (u.2.1 1))), ((u.1 15), .inr (5, sF (u.2.1 2))), ((u.1 16), .inr (5, sF (u.2.1 3))), ((u.1 17), .inr (5, sF (u.2.1 4))), ((u.1 6), .inr (2, [.ref (u.1 18), .ref (u.1 19), .ref (u.1 20), .ref (u.1 21), .ref (u.1 22), .int 0])), ((u.1 18), .inl (E 0, 60, .inl (fun _ => 0))), ((u.1 19), .inl (E 0, 60, .inl (fun _ => 0))), ((u.1 20), .inl (E 0, 60, .inl (fun _ => 0))), ((u.1 21), .inl (E 0, 60, .inl (fun _ => 0))), ((u.1 22), .inl (E 0, 60, .inl (fun _ => 0))), ((u.1 9), .inr (6, [.ref (u.1 23), .int 0, .ref (u.1 24), .ref (E 5), .int 0, .int 0, .int 0, .int 0])), ((u.1 23), .inl (E 0, 120, .inl (fun _ => 0))), ((u.1 24), .inr (4, [.ref (u.1 25), .ref (u.1 26), .ref (u.1 27), .int 0])), ((u.1 10), .inr (0, [.ref (u.1 28), .ref (u.1 29), .ref (u.1 30), .ref (u.1 31), .ref (u.1 32), .int 0, .int 0, .int 0, .int 0])), ((u.1 28), .inl (E 0, 9, .inl (fun _ => 0)))])) (va_A [(h0, .inr (8, [.null, .null, .null, .null, .null, .null, .null, .null, .null, .null, .null, .null, .null, .int 0]))] sz)) 77 3159 (va_A [(h0, .inr (8, [.null, .null, .null, .null, .null, .null, .null, .null, .null, .null, .null, .null, .null, .int 0]))] sz) := by
  refine Met.ofW (cc := cX8_init) (maxL := 2) (ret := none) (by decide) rfl ?_
  intro p e s m args below meth c s₁ B hml hv
  obtain ⟨rfl, hsz, hP, hK, hD0⟩ := hv
  have hx := B.exec
  have hb := B.bytes
  have hr := B.returns
  have hts := atoms_spec (ws := wl yX8_init cX8_init 2 none) B.pre
  have htb : ∀ w ∈ tb, w.before _ s = true := fun w h => hts w (List.mem_cons_of_mem _ h)
  have hown : s.vm.findClass RX8 = some m.cls := findClass_of_methodNamed B.named
  have hlocks := B.notSynchronized
  have hin : meth.name = "<init>" := (name_of_methodNamed B.named B.method).1
  subst hsz
  have hD := hD0.self (sz := s.heap.size)
  generalize hAe : va_A [(h0, .inr (8, [.null, .null, .null, .null, .null, .null, .null, .null, .null, .null, .null, .null, .null, .int 0]))] s.heap.size = A at hD ⊢
  have hA : ∀ q : Nat, s.heap.size ≤ q → A q := fun q h => by rw [← hAe]; exact Or.inr h
  have hS : va_S A s.heap s.heap [] := va_S.rf
  have hP : va_P D vwCl [(h0, .inr (8, [.null, .null, .null, .null, .null, .null, .null, .null, .null, .null, .null, .null, .null, .int 0]))] s.heap := hP
  have hl := lv_entry ([.ref h0]) (n := 2) (Nat.le_of_ble_eq_true rfl)
  rw [lg_entry_eq]
  generalize (lg_sl ([.ref h0]) ++ List.replicate (2 - (lg_sl ([.ref h0])).length) Slot.unset).toArray = ls at hl ⊢
  have hl : lv_has ls 2 [(0, .ref h0)] := hl
  refine lv_aload_n hx hb dX8_init_0 rfl (lv_at hl 0 rfl) ?_
  refine W.objInit hx hb hown (htb _ k_21) (htb _ k_22) (htb _ k_23) rfl (by rw [hml]; exact hl.1) rfl dX8_init_1 (Nat.le_of_ble_eq_true rfl) (Nat.le_of_ble_eq_true rfl) ?_
  refine W.eq (g2 := F0 m 4 ls []) rfl ?_
  refine lv_aload_n hx hb dX8_init_4 rfl (lv_at hl 0 rfl) ?_
  refine lv_sipush (v := 400) hx hb dX8_init_5 (by decide) ?_
  refine va_newa (atype := .int) (a0 := (400, .inl (fun _ => 0))) hx hb (htb _ k_54) rfl hK.1 hP hD hS hA (fun cA => nw_i cA) (by decide) (by decide) (by decide) (Nat.le_of_ble_eq_true rfl) (Nat.le_of_ble_eq_true rfl) dX8_init_8 (fun q_1 cA H hK2 hP hD hS => ?_)
  obtain rfl : E 0 = cA := (ka_i (fun C h => by cases h) hK2 0 rfl).symm
  clear hK2
  have hP : va_P D vwCl [(h0, .inr (8, [.null, .null, .null, .null, .null, .null, .null, .null, .null, .null, .null, .null, .null, .int 0])), (q_1, .inl (E 0, 400, .inl (fun _ => 0)))] H := hP
  have hD : va_D A [(h0, .inr (8, [.null, .null, .null, .null, .null, .null, .null, .null, .null, .null, .null, .null, .null, .int 0])), (q_1, .inl (E 0, 400, .inl (fun _ => 0)))] := hD
  refine W.widen (k := 1) (n := 400) (Nat.le_of_ble_eq_true rfl) (Nat.le_of_ble_eq_true rfl) ?_
  refine va_putF (D := D) (ci := 8) (v := .ref q_1) (ty := .array .int) (C := RX8) (T := TX8) (N := 14) hx hb htb iX8 tyX8 tyX8_ok nmX8 hown hK.1 hP hD hS 0 rfl rfl 0 (by decide) (htb _ k_272) (fun _ h9 => h9) rfl hin rfl (by decide +kernel) rfl rfl (Nat.le_of_ble_eq_true rfl) dX8_init_10 (fun H locs hP hD hS => ?_)
  have hP : va_P D vwCl [(h0, .inr (8, [.ref q_1, .null, .null, .null, .null, .null, .null, .null, .null, .null, .null, .null, .null, .int 0])), (q_1, .inl (E 0, 400, .inl (fun _ => 0)))] H := hP
  have hD : va_D A [(h0, .inr (8, [.ref q_1, .null, .null, .null, .null, .null, .null, .null, .null, .null, .null, .null, .null, .int 0])), (q_1, .inl (E 0, 400, .inl (fun _ => 0)))] := hD
  refine lv_aload_n hx hb dX8_init_13 rfl (lv_at hl 0 rfl) ?_
  refine lv_bipush (v := 16) hx hb dX8_init_14 (by decide) ?_
  refine va_newa (atype := .int) (a0 := (16, .inl (fun _ => 0))) hx hb (htb _ k_54) rfl hK.1 hP hD hS hA (fun cA => nw_i cA) (by decide) (by decide) (by decide) (Nat.le_of_ble_eq_true rfl) (Nat.le_of_ble_eq_true rfl) dX8_init_16 (fun q_2 cA H hK2 hP hD hS => ?_)
  obtain rfl : E 0 = cA := (ka_i (fun C h => by cases h) hK2 0 rfl).symm
  clear hK2
  have hP : va_P D vwCl [(h0, .inr (8, [.ref q_1, .null, .null, .null, .null, .null, .null, .null, .null, .null, .null, .null, .null, .int 0])), (q_1, .inl (E 0, 400, .inl (fun _ => 0))), (q_2, .inl (E 0, 16, .inl (fun _ => 0)))] H := hP
  have hD : va_D A [(h0, .inr (8, [.ref q_1, .null, .null, .null, .null, .null, .null, .null, .null, .null, .null, .null, .null, .int 0])), (q_1, .inl (E 0, 400, .inl (fun _ => 0))), (q_2, .inl (E 0, 16, .inl (fun _ => 0)))] := hD
  refine W.widen (k := 2) (n := 416) (Nat.le_of_ble_eq_true rfl) (Nat.le_of_ble_eq_true rfl) ?_
  refine va_putF (D := D) (ci := 8) (v := .ref q_2) (ty := .array .int) (C := RX8) (T := TX8) (N := 14) hx hb htb iX8 tyX8 tyX8_ok nmX8 hown hK.1 hP hD hS 0 rfl rfl 1 (by decide) (htb _ k_273) (fun _ h9 => h9) rfl hin rfl (by decide +kernel) rfl rfl (Nat.le_of_ble_eq_true rfl) dX8_init_18 (fun H locs hP hD hS => ?_)
  have hP : va_P D vwCl [(h0, .inr (8, [.ref q_1, .ref q_2, .null, .null, .null, .null, .null, .null, .null, .null, .null, .null, .null, .int 0])), (q_1, .inl (E 0, 400, .inl (fun _ => 0))), (q_2, .inl (E 0, 16, .inl (fun _ => 0)))] H := hP
  have hD : va_D A [(h0, .inr (8, [.ref q_1, .ref q_2, .null, .null, .null, .null, .null, .null, .null, .null, .null, .null, .null, .int 0])), (q_1, .inl (E 0, 400, .inl (fun _ => 0))), (q_2, .inl (E 0, 16, .inl (fun _ => 0)))] := hD
  refine lv_aload_n hx hb dX8_init_21 rfl (lv_at hl 0 rfl) ?_
  refine lv_bipush (v := 16) hx hb dX8_init_22 (by decide) ?_
  refine va_newa (atype := .int) (a0 := (16, .inl (fun _ => 0))) hx hb (htb _ k_54) rfl hK.1 hP hD hS hA (fun cA => nw_i cA) (by decide) (by decide) (by decide) (Nat.le_of_ble_eq_true rfl) (Nat.le_of_ble_eq_true rfl) dX8_init_24 (fun q_3 cA H hK2 hP hD hS => ?_)
  obtain rfl : E 0 = cA := (ka_i (fun C h => by cases h) hK2 0 rfl).symm
  clear hK2
  have hP : va_P D vwCl [(h0, .inr (8, [.ref q_1, .ref q_2, .null, .null, .null, .null, .null, .null, .null, .null, .null, .null, .null, .int 0])), (q_1, .inl (E 0, 400, .inl (fun _ => 0))), (q_2, .inl (E 0, 16, .inl (fun _ => 0))), (q_3, .inl (E 0, 16, .inl (fun _ => 0)))] H := hP
  have hD : va_D A [(h0, .inr (8, [.ref q_1, .ref q_2, .null, .null, .null, .null, .null, .null, .null, .null, .null, .null, .null, .int 0])), (q_1, .inl (E 0, 400, .inl (fun _ => 0))), (q_2, .inl (E 0, 16, .inl (fun _ => 0))), (q_3, .inl (E 0, 16, .inl (fun _ => 0)))] := hD
  refine W.widen (k := 3) (n := 432) (Nat.le_of_ble_eq_true rfl) (Nat.le_of_ble_eq_true rfl) ?_
  refine va_putF (D := D) (ci := 8) (v := .ref q_3) (ty := .array .int) (C := RX8) (T := TX8) (N := 14) hx hb htb iX8 tyX8 tyX8_ok nmX8 hown hK.1 hP hD hS 0 rfl rfl 2 (by decide) (htb _ k_274) (fun _ h9 => h9) rfl hin rfl (by decide +kernel) rfl rfl (Nat.le_of_ble_eq_true rfl) dX8_init_26 (fun H locs hP hD hS => ?_)
  have hP : va_P D vwCl [(h0, .inr (8, [.ref q_1, .ref q_2, .ref q_3, .null, .null, .null, .null, .null, .null, .null, .null, .null, .null, .int 0])), (q_1, .inl (E 0, 400, .inl (fun _ => 0))), (q_2, .inl (E 0, 16, .inl (fun _ => 0))), (q_3, .inl (E 0, 16, .inl (fun _ => 0)))] H := hP
  have hD : va_D A [(h0, .inr (8, [.ref q_1, .ref q_2, .ref q_3, .null, .null, .null, .null, .null, .null, .null, .null, .null, .null, .int 0])), (q_1, .inl (E 0, 400, .inl (fun _ => 0))), (q_2, .inl (E 0, 16, .inl (fun _ => 0))), (q_3, .inl (E 0, 16, .inl (fun _ => 0)))] := hD
  refine lv_aload_n hx hb dX8_init_29 rfl (lv_at hl 0 rfl) ?_
  refine lv_bipush (v := 16) hx hb dX8_init_30 (by decide) ?_
  refine va_newq hx hb hown (htb _ k_24) hK.2.2.1.1 hK.1 hP hD hS hA (N' := 16) (by decide) (by decide) (by decide) (Nat.le_of_ble_eq_true rfl) (Nat.le_of_ble_eq_true rfl) dX8_init_32 (fun q_4 cA H hK2 hP hD hS => ?_)
  obtain rfl : E 3 = cA := (ka_o hK2 3 rfl).symm
  clear hK2
  have hP : va_P D vwCl [(h0, .inr (8, [.ref q_1, .ref q_2, .ref q_3, .null, .null, .null, .null, .null, .null, .null, .null, .null, .null, .int 0])), (q_1, .inl (E 0, 400, .inl (fun _ => 0))), (q_2, .inl (E 0, 16, .inl (fun _ => 0))), (q_3, .inl (E 0, 16, .inl (fun _ => 0))), (q_4, .inl (E 3, 16, .inr (.inr (.inr (.inr (fun _ => none))))))] H := hP
  have hD : va_D A [(h0, .inr (8, [.ref q_1, .ref q_2, .ref q_3, .null, .null, .null, .null, .null, .null, .null, .null, .null, .null, .int 0])), (q_1, .inl (E 0, 400, .inl (fun _ => 0))), (q_2, .inl (E 0, 16, .inl (fun _ => 0))), (q_3, .inl (E 0, 16, .inl (fun _ => 0))), (q_4, .inl (E 3, 16, .inr (.inr (.inr (.inr (fun _ => none))))))] := hD
  refine W.widen (k := 4) (n := 448) (Nat.le_of_ble_eq_true rfl) (Nat.le_of_ble_eq_true rfl) ?_
  refine va_putF (D := D) (ci := 8) (v := .ref q_4) (ty := .array (.object "SeaWatches$Watch")) (C := RX8) (T := TX8) (N := 14) hx hb htb iX8 tyX8 tyX8_ok nmX8 hown hK.1 hP hD hS 0 rfl rfl 3 (by decide) (htb _ k_275) (fun _ h9 => h9) rfl hin rfl (by decide +kernel) rfl rfl (Nat.le_of_ble_eq_true rfl) dX8_init_35 (fun H locs hP hD hS => ?_)
  have hP : va_P D vwCl [(h0, .inr (8, [.ref q_1, .ref q_2, .ref q_3, .ref q_4, .null, .null, .null, .null, .null, .null, .null, .null, .null, .int 0])), (q_1, .inl (E 0, 400, .inl (fun _ => 0))), (q_2, .inl (E 0, 16, .inl (fun _ => 0))), (q_3, .inl (E 0, 16, .inl (fun _ => 0))), (q_4, .inl (E 3, 16, .inr (.inr (.inr (.inr (fun _ => none))))))] H := hP
  have hD : va_D A [(h0, .inr (8, [.ref q_1, .ref q_2, .ref q_3, .ref q_4, .null, .null, .null, .null, .null, .null, .null, .null, .null, .int 0])), (q_1, .inl (E 0, 400, .inl (fun _ => 0))), (q_2, .inl (E 0, 16, .inl (fun _ => 0))), (q_3, .inl (E 0, 16, .inl (fun _ => 0))), (q_4, .inl (E 3, 16, .inr (.inr (.inr (.inr (fun _ => none))))))] := hD
  refine lv_aload_n hx hb dX8_init_38 rfl (lv_at hl 0 rfl) ?_
  refine lv_iconst (v := 5) hx hb dX8_init_39 (by decide) ?_
  refine va_newq hx hb hown (htb _ k_26) hK.2.2.1.2 hK.1 hP hD hS hA (N' := 5) (by decide) (by decide) (by decide) (Nat.le_of_ble_eq_true rfl) (Nat.le_of_ble_eq_true rfl) dX8_init_40 (fun q_5 cA H hK2 hP hD hS => ?_)
  obtain rfl : E 4 = cA := (ka_o hK2 4 rfl).symm
  clear hK2
  have hP : va_P D vwCl [(h0, .inr (8, [.ref q_1, .ref q_2, .ref q_3, .ref q_4, .null, .null, .null, .null, .null, .null, .null, .null, .null, .int 0])), (q_1, .inl (E 0, 400, .inl (fun _ => 0))), (q_2, .inl (E 0, 16, .inl (fun _ => 0))), (q_3, .inl (E 0, 16, .inl (fun _ => 0))), (q_4, .inl (E 3, 16, .inr (.inr (.inr (.inr (fun _ => none)))))), (q_5, .inl (E 4, 5, .inr (.inr (.inr (.inr (fun _ => none))))))] H := hP
  have hD : va_D A [(h0, .inr (8, [.ref q_1, .ref q_2, .ref q_3, .ref q_4, .null, .null, .null, .null, .null, .null, .null, .null, .null, .int 0])), (q_1, .inl (E 0, 400, .inl (fun _ => 0))), (q_2, .inl (E 0, 16, .inl (fun _ => 0))), (q_3, .inl (E 0, 16, .inl (fun _ => 0))), (q_4, .inl (E 3, 16, .inr (.inr (.inr (.inr (fun _ => none)))))), (q_5, .inl (E 4, 5, .inr (.inr (.inr (.inr (fun _ => none))))))] := hD
  refine W.widen (k := 5) (n := 453) (Nat.le_of_ble_eq_true rfl) (Nat.le_of_ble_eq_true rfl) ?_
  refine va_putF (D := D) (ci := 8) (v := .ref q_5) (ty := .array (.object "SeaWatches$Ship")) (C := RX8) (T := TX8) (N := 14) hx hb htb iX8 tyX8 tyX8_ok nmX8 hown hK.1 hP hD hS 0 rfl rfl 4 (by decide) (htb _ k_276) (fun _ h9 => h9) rfl hin rfl (by decide +kernel) rfl rfl (Nat.le_of_ble_eq_true rfl) dX8_init_43 (fun H locs hP hD hS => ?_)
  have hP : va_P D vwCl [(h0, .inr (8, [.ref q_1, .ref q_2, .ref q_3, .ref q_4, .ref q_5, .null, .null, .null, .null, .null, .null, .null, .null, .int 0])), (q_1, .inl (E 0, 400, .inl (fun _ => 0))), (q_2, .inl (E 0, 16, .inl (fun _ => 0))), (q_3, .inl (E 0, 16, .inl (fun _ => 0))), (q_4, .inl (E 3, 16, .inr (.inr (.inr (.inr (fun _ => none)))))), (q_5, .inl (E 4, 5, .inr (.inr (.inr (.inr (fun _ => none))))))] H := hP
  have hD : va_D A [(h0, .inr (8, [.ref q_1, .ref q_2, .ref q_3, .ref q_4, .ref q_5, .null, .null, .null, .null, .null, .null, .null, .null, .int 0])), (q_1, .inl (E 0, 400, .inl (fun _ => 0))), (q_2, .inl (E 0, 16, .inl (fun _ => 0))), (q_3, .inl (E 0, 16, .inl (fun _ => 0))), (q_4, .inl (E 3, 16, .inr (.inr (.inr (.inr (fun _ => none)))))), (q_5, .inl (E 4, 5, .inr (.inr (.inr (.inr (fun _ => none))))))] := hD
  refine lv_aload_n hx hb dX8_init_46 rfl (lv_at hl 0 rfl) ?_
  refine lv_bipush (v := 9) hx hb dX8_init_47 (by decide) ?_
  refine va_newa (atype := .int) (a0 := (9, .inl (fun _ => 0))) hx hb (htb _ k_54) rfl hK.1 hP hD hS hA (fun cA => nw_i cA) (by decide) (by decide) (by decide) (Nat.le_of_ble_eq_true rfl) (Nat.le_of_ble_eq_true rfl) dX8_init_49 (fun q_6 cA H hK2 hP hD hS => ?_)
  obtain rfl : E 0 = cA := (ka_i (fun C h => by cases h) hK2 0 rfl).symm
  clear hK2
  have hP : va_P D vwCl [(h0, .inr (8, [.ref q_1, .ref q_2, .ref q_3, .ref q_4, .ref q_5, .null, .null, .null, .null, .null, .null, .null, .null, .int 0])), (q_1, .inl (E 0, 400, .inl (fun _ => 0))), (q_2, .inl (E 0, 16, .inl (fun _ => 0))), (q_3, .inl (E 0, 16, .inl (fun _ => 0))), (q_4, .inl (E 3, 16, .inr (.inr (.inr (.inr (fun _ => none)))))), (q_5, .inl (E 4, 5, .inr (.inr (.inr (.inr (fun _ => none)))))), (q_6, .inl (E 0, 9, .inl (fun _ => 0)))] H := hP
  have hD : va_D A [(h0, .inr (8, [.ref q_1, .ref q_2, .ref q_3, .ref q_4, .ref q_5, .null, .null, .null, .null, .null, .null, .null, .null, .int 0])), (q_1, .inl (E 0, 400, .inl (fun _ => 0))), (q_2, .inl (E 0, 16, .inl (fun _ => 0))), (q_3, .inl (E 0, 16, .inl (fun _ => 0))), (q_4, .inl (E 3, 16, .inr (.inr (.inr (.inr (fun _ => none)))))), (q_5, .inl (E 4, 5, .inr (.inr (.inr (.inr (fun _ => none)))))), (q_6, .inl (E 0, 9, .inl (fun _ => 0)))] := hD
  refine W.widen (k := 6) (n := 462) (Nat.le_of_ble_eq_true rfl) (Nat.le_of_ble_eq_true rfl) ?_
  refine va_putF (D := D) (ci := 8) (v := .ref q_6) (ty := .array .int) (C := RX8) (T := TX8) (N := 14) hx hb htb iX8 tyX8 tyX8_ok nmX8 hown hK.1 hP hD hS 0 rfl rfl 5 (by decide) (htb _ k_277) (fun _ h9 => h9) rfl hin rfl (by decide +kernel) rfl rfl (Nat.le_of_ble_eq_true rfl) dX8_init_51 (fun H locs hP hD hS => ?_)
  have hP : va_P D vwCl [(h0, .inr (8, [.ref q_1, .ref q_2, .ref q_3, .ref q_4, .ref q_5, .ref q_6, .null, .null, .null, .null, .null, .null, .null, .int 0])), (q_1, .inl (E 0, 400, .inl (fun _ => 0))), (q_2, .inl (E 0, 16, .inl (fun _ => 0))), (q_3, .inl (E 0, 16, .inl (fun _ => 0))), (q_4, .inl (E 3, 16, .inr (.inr (.inr (.inr (fun _ => none)))))), (q_5, .inl (E 4, 5, .inr (.inr (.inr (.inr (fun _ => none)))))), (q_6, .inl (E 0, 9, .inl (fun _ => 0)))] H := hP
  have hD : va_D A [(h0, .inr (8, [.ref q_1, .ref q_2, .ref q_3, .ref q_4, .ref q_5, .ref q_6, .null, .null, .null, .null, .null, .null, .null, .int 0])), (q_1, .inl (E 0, 400, .inl (fun _ => 0))), (q_2, .inl (E 0, 16, .inl (fun _ => 0))), (q_3, .inl (E 0, 16, .inl (fun _ => 0))), (q_4, .inl (E 3, 16, .inr (.inr (.inr (.inr (fun _ => none)))))), (q_5, .inl (E 4, 5, .inr (.inr (.inr (.inr (fun _ => none)))))), (q_6, .inl (E 0, 9, .inl (fun _ => 0)))] := hD
  have hP := hP.sub (ws' := [(h0, .inr (8, [.ref q_1, .ref q_2, .ref q_3, .ref q_4, .ref q_5, .ref q_6, .null, .null, .null, .null, .null, .null, .null, .int 0])), (q_1, .inl (E 0, 400, .inl (fun _ => 0))), (q_2, .inl (E 0, 16, .inl (fun _ => 0))), (q_3, .inl (E 0, 16, .inl (fun _ => 0))), (q_4, .inl (E 3, 16, .inr (.inr (.inr (.inr (fun _ => none)))))), (q_5, .inl (E 4, 5, .inr (.inr (.inr (.inr (fun _ => none))))))]) [0, 1, 2, 3, 4, 5] rfl
  have hD := hD.sub (ws' := [(h0, .inr (8, [.ref q_1, .ref q_2, .ref q_3, .ref q_4, .ref q_5, .ref q_6, .null, .null, .null, .null, .null, .null, .null, .int 0])), (q_1, .inl (E 0, 400, .inl (fun _ => 0))), (q_2, .inl (E 0, 16, .inl (fun _ => 0))), (q_3, .inl (E 0, 16, .inl (fun _ => 0))), (q_4, .inl (E 3, 16, .inr (.inr (.inr (.inr (fun _ => none)))))), (q_5, .inl (E 4, 5, .inr (.inr (.inr (.inr (fun _ => none))))))]) [0, 1, 2, 3, 4, 5] (by decide) rfl
  refine lv_aload_n hx hb dX8_init_54 rfl (lv_at hl 0 rfl) ?_
  refine va_new (ci := 2) (fs := [.null, .null, .null, .null, .null, .int 0]) (C := RX2) (T := TX2) (N := 6) hx hb htb iX2 tyX2 tyX2_ok hown (htb _ k_28) (htb _ k_29) (htb _ k_2) hK.1 hP hD hS hA rfl (by decide) (Nat.le_of_ble_eq_true rfl) (Nat.le_of_ble_eq_true rfl) dX8_init_55 (fun q_7 H hP hD hS => ?_)
  have hP : va_P D vwCl [(h0, .inr (8, [.ref q_1, .ref q_2, .ref q_3, .ref q_4, .ref q_5, .ref q_6, .null, .null, .null, .null, .null, .null, .null, .int 0])), (q_1, .inl (E 0, 400, .inl (fun _ => 0))), (q_2, .inl (E 0, 16, .inl (fun _ => 0))), (q_3, .inl (E 0, 16, .inl (fun _ => 0))), (q_4, .inl (E 3, 16, .inr (.inr (.inr (.inr (fun _ => none)))))), (q_5, .inl (E 4, 5, .inr (.inr (.inr (.inr (fun _ => none)))))), (q_7, .inr (2, [.null, .null, .null, .null, .null, .int 0]))] H := hP
  have hD : va_D A [(h0, .inr (8, [.ref q_1, .ref q_2, .ref q_3, .ref q_4, .ref q_5, .ref q_6, .null, .null, .null, .null, .null, .null, .null, .int 0])), (q_1, .inl (E 0, 400, .inl (fun _ => 0))), (q_2, .inl (E 0, 16, .inl (fun _ => 0))), (q_3, .inl (E 0, 16, .inl (fun _ => 0))), (q_4, .inl (E 3, 16, .inr (.inr (.inr (.inr (fun _ => none)))))), (q_5, .inl (E 4, 5, .inr (.inr (.inr (.inr (fun _ => none)))))), (q_7, .inr (2, [.null, .null, .null, .null, .null, .int 0]))] := hD
  refine W.widen (k := 7) (n := 468) (Nat.le_of_ble_eq_true rfl) (Nat.le_of_ble_eq_true rfl) ?_
  refine lv_dup hx hb dX8_init_58 rfl ?_
  have hPc := hP.sub (ws' := [(q_7, .inr (2, [.null, .null, .null, .null, .null, .int 0]))]) [6] rfl
  have hDc := hD.sub (ws' := [(q_7, .inr (2, [.null, .null, .null, .null, .null, .int 0]))]) [6] (by decide) rfl
  refine aft_v (runMN (rest := [.ref q_7, .ref h0]) (As := []) hx hb hml hown htb hK (c_X2_init l D E q_7 _ ) ok_X2_init rfl (show Cond.methodLinkNest RX8 36 yX2_init RX8 ∈ nestW by decide +kernel) k_31 k_2 k_32 ⟨(Nat.le_of_ble_eq_true rfl), (Nat.le_of_ble_eq_true rfl)⟩ ⟨(Nat.le_of_ble_eq_true rfl), (Nat.le_of_ble_eq_true rfl)⟩ hl.1 (Nat.le_of_ble_eq_true rfl) rfl rfl dX8_init_59 hPc hDc) hP hD hS hA [6] [0, 1, 2, 3, 4, 5] (wr := [(h0, .inr (8, [.ref q_1, .ref q_2, .ref q_3, .ref q_4, .ref q_5, .ref q_6, .null, .null, .null, .null, .null, .null, .null, .int 0])), (q_1, .inl (E 0, 400, .inl (fun _ => 0))), (q_2, .inl (E 0, 16, .inl (fun _ => 0))), (q_3, .inl (E 0, 16, .inl (fun _ => 0))), (q_4, .inl (E 3, 16, .inr (.inr (.inr (.inr (fun _ => none)))))), (q_5, .inl (E 4, 5, .inr (.inr (.inr (.inr (fun _ => none))))))]) rfl rfl (by decide) (by decide) (fun u_8 H locs hw_9 hP hD hS => ?_)
  clear hPc hDc
  have hP : va_P D vwCl [(h0, .inr (8, [.ref q_1, .ref q_2, .ref q_3, .ref q_4, .ref q_5, .ref q_6, .null, .null, .null, .null, .null, .null, .null, .int 0])), (q_1, .inl (E 0, 400, .inl (fun _ => 0))), (q_2, .inl (E 0, 16, .inl (fun _ => 0))), (q_3, .inl (E 0, 16, .inl (fun _ => 0))), (q_4, .inl (E 3, 16, .inr (.inr (.inr (.inr (fun _ => none)))))), (q_5, .inl (E 4, 5, .inr (.inr (.inr (.inr (fun _ => none)))))), (q_7, .inr (2, [.ref (u_8 0), .ref (u_8 1), .ref (u_8 2), .ref (u_8 3), .ref (u_8 4), .int 0])), ((u_8 0), .inl (E 0, 60, .inl (fun _ => 0))), ((u_8 1), .inl (E 0, 60, .inl (fun _ => 0))), ((u_8 2), .inl (E 0, 60, .inl (fun _ => 0))), ((u_8 3), .inl (E 0, 60, .inl (fun _ => 0))), ((u_8 4), .inl (E 0, 60, .inl (fun _ => 0)))] H := hP
  have hD : va_D A [(h0, .inr (8, [.ref q_1, .ref q_2, .ref q_3, .ref q_4, .ref q_5, .ref q_6, .null, .null, .null, .null, .null, .null, .null, .int 0])), (q_1, .inl (E 0, 400, .inl (fun _ => 0))), (q_2, .inl (E 0, 16, .inl (fun _ => 0))), (q_3, .inl (E 0, 16, .inl (fun _ => 0))), (q_4, .inl (E 3, 16, .inr (.inr (.inr (.inr (fun _ => none)))))), (q_5, .inl (E 4, 5, .inr (.inr (.inr (.inr (fun _ => none)))))), (q_7, .inr (2, [.ref (u_8 0), .ref (u_8 1), .ref (u_8 2), .ref (u_8 3), .ref (u_8 4), .int 0])), ((u_8 0), .inl (E 0, 60, .inl (fun _ => 0))), ((u_8 1), .inl (E 0, 60, .inl (fun _ => 0))), ((u_8 2), .inl (E 0, 60, .inl (fun _ => 0))), ((u_8 3), .inl (E 0, 60, .inl (fun _ => 0))), ((u_8 4), .inl (E 0, 60, .inl (fun _ => 0)))] := hD
  refine W.widen (k := 12) (n := 768) (Nat.le_of_ble_eq_true rfl) (Nat.le_of_ble_eq_true rfl) ?_
  refine va_putF (D := D) (ci := 8) (v := .ref q_7) (ty := .object "SeaWatches$Offs") (C := RX8) (T := TX8) (N := 14) hx hb htb iX8 tyX8 tyX8_ok nmX8 hown hK.1 hP hD hS 0 rfl rfl 6 (by decide) (htb _ k_278) (fun _ h9 => h9) rfl hin rfl (by decide +kernel) rfl rfl (Nat.le_of_ble_eq_true rfl) dX8_init_62 (fun H locs hP hD hS => ?_)
  have hP : va_P D vwCl [(h0, .inr (8, [.ref q_1, .ref q_2, .ref q_3, .ref q_4, .ref q_5, .ref q_6, .ref q_7, .null, .null, .null, .null, .null, .null, .int 0])), (q_1, .inl (E 0, 400, .inl (fun _ => 0))), (q_2, .inl (E 0, 16, .inl (fun _ => 0))), (q_3, .inl (E 0, 16, .inl (fun _ => 0))), (q_4, .inl (E 3, 16, .inr (.inr (.inr (.inr (fun _ => none)))))), (q_5, .inl (E 4, 5, .inr (.inr (.inr (.inr (fun _ => none)))))), (q_7, .inr (2, [.ref (u_8 0), .ref (u_8 1), .ref (u_8 2), .ref (u_8 3), .ref (u_8 4), .int 0])), ((u_8 0), .inl (E 0, 60, .inl (fun _ => 0))), ((u_8 1), .inl (E 0, 60, .inl (fun _ => 0))), ((u_8 2), .inl (E 0, 60, .inl (fun _ => 0))), ((u_8 3), .inl (E 0, 60, .inl (fun _ => 0))), ((u_8 4), .inl (E 0, 60, .inl (fun _ => 0)))] H := hP
  have hD : va_D A [(h0, .inr (8, [.ref q_1, .ref q_2, .ref q_3, .ref q_4, .ref q_5, .ref q_6, .ref q_7, .null, .null, .null, .null, .null, .null, .int 0])), (q_1, .inl (E 0, 400, .inl (fun _ => 0))), (q_2, .inl (E 0, 16, .inl (fun _ => 0))), (q_3, .inl (E 0, 16, .inl (fun _ => 0))), (q_4, .inl (E 3, 16, .inr (.inr (.inr (.inr (fun _ => none)))))), (q_5, .inl (E 4, 5, .inr (.inr (.inr (.inr (fun _ => none)))))), (q_7, .inr (2, [.ref (u_8 0), .ref (u_8 1), .ref (u_8 2), .ref (u_8 3), .ref (u_8 4), .int 0])), ((u_8 0), .inl (E 0, 60, .inl (fun _ => 0))), ((u_8 1), .inl (E 0, 60, .inl (fun _ => 0))), ((u_8 2), .inl (E 0, 60, .inl (fun _ => 0))), ((u_8 3), .inl (E 0, 60, .inl (fun _ => 0))), ((u_8 4), .inl (E 0, 60, .inl (fun _ => 0)))] := hD
  refine lv_aload_n hx hb dX8_init_65 rfl (lv_at hl 0 rfl) ?_
  refine va_new (ci := 3) (fs := [.null, .null, .null, .int 0]) (C := RX3) (T := TX3) (N := 4) hx hb htb iX3 tyX3 tyX3_ok hown (htb _ k_55) (htb _ k_56) (htb _ k_3) hK.1 hP hD hS hA rfl (by decide) (Nat.le_of_ble_eq_true rfl) (Nat.le_of_ble_eq_true rfl) dX8_init_66 (fun q_11 H hP hD hS => ?_)
  have hP : va_P D vwCl [(h0, .inr (8, [.ref q_1, .ref q_2, .ref q_3, .ref q_4, .ref q_5, .ref q_6, .ref q_7, .null, .null, .null, .null, .null, .null, .int 0])), (q_1, .inl (E 0, 400, .inl (fun _ => 0))), (q_2, .inl (E 0, 16, .inl (fun _ => 0))), (q_3, .inl (E 0, 16, .inl (fun _ => 0))), (q_4, .inl (E 3, 16, .inr (.inr (.inr (.inr (fun _ => none)))))), (q_5, .inl (E 4, 5, .inr (.inr (.inr (.inr (fun _ => none)))))), (q_7, .inr (2, [.ref (u_8 0), .ref (u_8 1), .ref (u_8 2), .ref (u_8 3), .ref (u_8 4), .int 0])), ((u_8 0), .inl (E 0, 60, .inl (fun _ => 0))), ((u_8 1), .inl (E 0, 60, .inl (fun _ => 0))), ((u_8 2), .inl (E 0, 60, .inl (fun _ => 0))), ((u_8 3), .inl (E 0, 60, .inl (fun _ => 0))), ((u_8 4), .inl (E 0, 60, .inl (fun _ => 0))), (q_11, .inr (3, [.null, .null, .null, .int 0]))] H := hP
  have hD : va_D A [(h0, .inr (8, [.ref q_1, .ref q_2, .ref q_3, .ref q_4, .ref q_5, .ref q_6, .ref q_7, .null, .null, .null, .null, .null, .null, .int 0])), (q_1, .inl (E 0, 400, .inl (fun _ => 0))), (q_2, .inl (E 0, 16, .inl (fun _ => 0))), (q_3, .inl (E 0, 16, .inl (fun _ => 0))), (q_4, .inl (E 3, 16, .inr (.inr (.inr (.inr (fun _ => none)))))), (q_5, .inl (E 4, 5, .inr (.inr (.inr (.inr (fun _ => none)))))), (q_7, .inr (2, [.ref (u_8 0), .ref (u_8 1), .ref (u_8 2), .ref (u_8 3), .ref (u_8 4), .int 0])), ((u_8 0), .inl (E 0, 60, .inl (fun _ => 0))), ((u_8 1), .inl (E 0, 60, .inl (fun _ => 0))), ((u_8 2), .inl (E 0, 60, .inl (fun _ => 0))), ((u_8 3), .inl (E 0, 60, .inl (fun _ => 0))), ((u_8 4), .inl (E 0, 60, .inl (fun _ => 0))), (q_11, .inr (3, [.null, .null, .null, .int 0]))] := hD
  refine W.widen (k := 13) (n := 772) (Nat.le_of_ble_eq_true rfl) (Nat.le_of_ble_eq_true rfl) ?_
  refine lv_dup hx hb dX8_init_69 rfl ?_
  have hPc := hP.sub (ws' := [(q_11, .inr (3, [.null, .null, .null, .int 0]))]) [12] rfl
  have hDc := hD.sub (ws' := [(q_11, .inr (3, [.null, .null, .null, .int 0]))]) [12] (by decide) rfl
  refine aft_v (runMN (rest := [.ref q_11, .ref h0]) (As := []) hx hb hml hown htb hK (c_X3_init l D E q_11 _ ) ok_X3_init rfl (show Cond.methodLinkNest RX8 43 yX3_init RX8 ∈ nestW by decide +kernel) k_58 k_3 k_59 ⟨(Nat.le_of_ble_eq_true rfl), (Nat.le_of_ble_eq_true rfl)⟩ ⟨(Nat.le_of_ble_eq_true rfl), (Nat.le_of_ble_eq_true rfl)⟩ hl.1 (Nat.le_of_ble_eq_true rfl) rfl rfl dX8_init_70 hPc hDc) hP hD hS hA [12] [0, 1, 2, 3, 4, 5, 6, 7, 8, 9, 10, 11] (wr := [(h0, .inr (8, [.ref q_1, .ref q_2, .ref q_3, .ref q_4, .ref q_5, .ref q_6, .ref q_7, .null, .null, .null, .null, .null, .null, .int 0])), (q_1, .inl (E 0, 400, .inl (fun _ => 0))), (q_2, .inl (E 0, 16, .inl (fun _ => 0))), (q_3, .inl (E 0, 16, .inl (fun _ => 0))), (q_4, .inl (E 3, 16, .inr (.inr (.inr (.inr (fun _ => none)))))), (q_5, .inl (E 4, 5, .inr (.inr (.inr (.inr (fun _ => none)))))), (q_7, .inr (2, [.ref (u_8 0), .ref (u_8 1), .ref (u_8 2), .ref (u_8 3), .ref (u_8 4), .int 0])), ((u_8 0), .inl (E 0, 60, .inl (fun _ => 0))), ((u_8 1), .inl (E 0, 60, .inl (fun _ => 0))), ((u_8 2), .inl (E 0, 60, .inl (fun _ => 0))), ((u_8 3), .inl (E 0, 60, .inl (fun _ => 0))), ((u_8 4), .inl (E 0, 60, .inl (fun _ => 0)))]) rfl rfl (by decide) (by decide) (fun u_12 H locs hw_13 hP hD hS => ?_)
  clear hPc hDc
  have hP : va_P D vwCl [(h0, .inr (8, [.ref q_1, .ref q_2, .ref q_3, .ref q_4, .ref q_5, .ref q_6, .ref q_7, .null, .null, .null, .null, .null, .null, .int 0])), (q_1, .inl (E 0, 400, .inl (fun _ => 0))), (q_2, .inl (E 0, 16, .inl (fun _ => 0))), (q_3, .inl (E 0, 16, .inl (fun _ => 0))), (q_4, .inl (E 3, 16, .inr (.inr (.inr (.inr (fun _ => none)))))), (q_5, .inl (E 4, 5, .inr (.inr (.inr (.inr (fun _ => none)))))), (q_7, .inr (2, [.ref (u_8 0), .ref (u_8 1), .ref (u_8 2), .ref (u_8 3), .ref (u_8 4), .int 0])), ((u_8 0), .inl (E 0, 60, .inl (fun _ => 0))), ((u_8 1), .inl (E 0, 60, .inl (fun _ => 0))), ((u_8 2), .inl (E 0, 60, .inl (fun _ => 0))), ((u_8 3), .inl (E 0, 60, .inl (fun _ => 0))), ((u_8 4), .inl (E 0, 60, .inl (fun _ => 0)))] H := hP
  have hD : va_D A [(h0, .inr (8, [.ref q_1, .ref q_2, .ref q_3, .ref q_4, .ref q_5, .ref q_6, .ref q_7, .null, .null, .null, .null, .null, .null, .int 0])), (q_1, .inl (E 0, 400, .inl (fun _ => 0))), (q_2, .inl (E 0, 16, .inl (fun _ => 0))), (q_3, .inl (E 0, 16, .inl (fun _ => 0))), (q_4, .inl (E 3, 16, .inr (.inr (.inr (.inr (fun _ => none)))))), (q_5, .inl (E 4, 5, .inr (.inr (.inr (.inr (fun _ => none)))))), (q_7, .inr (2, [.ref (u_8 0), .ref (u_8 1), .ref (u_8 2), .ref (u_8 3), .ref (u_8 4), .int 0])), ((u_8 0), .inl (E 0, 60, .inl (fun _ => 0))), ((u_8 1), .inl (E 0, 60, .inl (fun _ => 0))), ((u_8 2), .inl (E 0, 60, .inl (fun _ => 0))), ((u_8 3), .inl (E 0, 60, .inl (fun _ => 0))), ((u_8 4), .inl (E 0, 60, .inl (fun _ => 0)))] := hD
  refine W.widen (k := 16) (n := 952) (Nat.le_of_ble_eq_true rfl) (Nat.le_of_ble_eq_true rfl) ?_
  refine va_putF (D := D) (ci := 8) (v := .ref q_11) (ty := .object "SeaWatches$Rates") (C := RX8) (T := TX8) (N := 14) hx hb htb iX8 tyX8 tyX8_ok nmX8 hown hK.1 hP hD hS 0 rfl rfl 7 (by decide) (htb _ k_279) (fun _ h9 => h9) rfl hin rfl (by decide +kernel) rfl rfl (Nat.le_of_ble_eq_true rfl) dX8_init_73 (fun H locs hP hD hS => ?_)
  have hP : va_P D vwCl [(h0, .inr (8, [.ref q_1, .ref q_2, .ref q_3, .ref q_4, .ref q_5, .ref q_6, .ref q_7, .ref q_11, .null, .null, .null, .null, .null, .int 0])), (q_1, .inl (E 0, 400, .inl (fun _ => 0))), (q_2, .inl (E 0, 16, .inl (fun _ => 0))), (q_3, .inl (E 0, 16, .inl (fun _ => 0))), (q_4, .inl (E 3, 16, .inr (.inr (.inr (.inr (fun _ => none)))))), (q_5, .inl (E 4, 5, .inr (.inr (.inr (.inr (fun _ => none)))))), (q_7, .inr (2, [.ref (u_8 0), .ref (u_8 1), .ref (u_8 2), .ref (u_8 3), .ref (u_8 4), .int 0])), ((u_8 0), .inl (E 0, 60, .inl (fun _ => 0))), ((u_8 1), .inl (E 0, 60, .inl (fun _ => 0))), ((u_8 2), .inl (E 0, 60, .inl (fun _ => 0))), ((u_8 3), .inl (E 0, 60, .inl (fun _ => 0))), ((u_8 4), .inl (E 0, 60, .inl (fun _ => 0)))] H := hP
  have hD : va_D A [(h0, .inr (8, [.ref q_1, .ref q_2, .ref q_3, .ref q_4, .ref q_5, .ref q_6, .ref q_7, .ref q_11, .null, .null, .null, .null, .null, .int 0])), (q_1, .inl (E 0, 400, .inl (fun _ => 0))), (q_2, .inl (E 0, 16, .inl (fun _ => 0))), (q_3, .inl (E 0, 16, .inl (fun _ => 0))), (q_4, .inl (E 3, 16, .inr (.inr (.inr (.inr (fun _ => none)))))), (q_5, .inl (E 4, 5, .inr (.inr (.inr (.inr (fun _ => none)))))), (q_7, .inr (2, [.ref (u_8 0), .ref (u_8 1), .ref (u_8 2), .ref (u_8 3), .ref (u_8 4), .int 0])), ((u_8 0), .inl (E 0, 60, .inl (fun _ => 0))), ((u_8 1), .inl (E 0, 60, .inl (fun _ => 0))), ((u_8 2), .inl (E 0, 60, .inl (fun _ => 0))), ((u_8 3), .inl (E 0, 60, .inl (fun _ => 0))), ((u_8 4), .inl (E 0, 60, .inl (fun _ => 0)))] := hD
  refine lv_aload_n hx hb dX8_init_76 rfl (lv_at hl 0 rfl) ?_
  refine va_new (ci := 1) (fs := [.long 0, .long 0, .long 0, .long 0, .long 0, .long 0, .long 0, .long 0, .long 0, .long 0, .long 0, .long 0, .int 0, .long 0, .long 0]) (C := RX1) (T := TX1) (N := 15) hx hb htb iX1 tyX1 tyX1_ok hown (htb _ k_77) (htb _ k_78) (htb _ k_4) hK.1 hP hD hS hA rfl (by decide) (Nat.le_of_ble_eq_true rfl) (Nat.le_of_ble_eq_true rfl) dX8_init_77 (fun q_15 H hP hD hS => ?_)
  have hP : va_P D vwCl [(h0, .inr (8, [.ref q_1, .ref q_2, .ref q_3, .ref q_4, .ref q_5, .ref q_6, .ref q_7, .ref q_11, .null, .null, .null, .null, .null, .int 0])), (q_1, .inl (E 0, 400, .inl (fun _ => 0))), (q_2, .inl (E 0, 16, .inl (fun _ => 0))), (q_3, .inl (E 0, 16, .inl (fun _ => 0))), (q_4, .inl (E 3, 16, .inr (.inr (.inr (.inr (fun _ => none)))))), (q_5, .inl (E 4, 5, .inr (.inr (.inr (.inr (fun _ => none)))))), (q_7, .inr (2, [.ref (u_8 0), .ref (u_8 1), .ref (u_8 2), .ref (u_8 3), .ref (u_8 4), .int 0])), ((u_8 0), .inl (E 0, 60, .inl (fun _ => 0))), ((u_8 1), .inl (E 0, 60, .inl (fun _ => 0))), ((u_8 2), .inl (E 0, 60, .inl (fun _ => 0))), ((u_8 3), .inl (E 0, 60, .inl (fun _ => 0))), ((u_8 4), .inl (E 0, 60, .inl (fun _ => 0))), (q_15, .inr (1, [.long 0, .long 0, .long 0, .long 0, .long 0, .long 0, .long 0, .long 0, .long 0, .long 0, .long 0, .long 0, .int 0, .long 0, .long 0]))] H := hP
  have hD : va_D A [(h0, .inr (8, [.ref q_1, .ref q_2, .ref q_3, .ref q_4, .ref q_5, .ref q_6, .ref q_7, .ref q_11, .null, .null, .null, .null, .null, .int 0])), (q_1, .inl (E 0, 400, .inl (fun _ => 0))), (q_2, .inl (E 0, 16, .inl (fun _ => 0))), (q_3, .inl (E 0, 16, .inl (fun _ => 0))), (q_4, .inl (E 3, 16, .inr (.inr (.inr (.inr (fun _ => none)))))), (q_5, .inl (E 4, 5, .inr (.inr (.inr (.inr (fun _ => none)))))), (q_7, .inr (2, [.ref (u_8 0), .ref (u_8 1), .ref (u_8 2), .ref (u_8 3), .ref (u_8 4), .int 0])), ((u_8 0), .inl (E 0, 60, .inl (fun _ => 0))), ((u_8 1), .inl (E 0, 60, .inl (fun _ => 0))), ((u_8 2), .inl (E 0, 60, .inl (fun _ => 0))), ((u_8 3), .inl (E 0, 60, .inl (fun _ => 0))), ((u_8 4), .inl (E 0, 60, .inl (fun _ => 0))), (q_15, .inr (1, [.long 0, .long 0, .long 0, .long 0, .long 0, .long 0, .long 0, .long 0, .long 0, .long 0, .long 0, .long 0, .int 0, .long 0, .long 0]))] := hD
  refine W.widen (k := 17) (n := 967) (Nat.le_of_ble_eq_true rfl) (Nat.le_of_ble_eq_true rfl) ?_
  refine lv_dup hx hb dX8_init_80 rfl ?_
  have hPc := hP.sub (ws' := [(q_15, .inr (1, [.long 0, .long 0, .long 0, .long 0, .long 0, .long 0, .long 0, .long 0, .long 0, .long 0, .long 0, .long 0, .int 0, .long 0, .long 0]))]) [12] rfl
  have hDc := hD.sub (ws' := [(q_15, .inr (1, [.long 0, .long 0, .long 0, .long 0, .long 0, .long 0, .long 0, .long 0, .long 0, .long 0, .long 0, .long 0, .int 0, .long 0, .long 0]))]) [12] (by decide) rfl
  refine aft_v (runMN (rest := [.ref q_15, .ref h0]) (As := []) hx hb hml hown htb hK (c_X1_init l D E q_15 _ ) ok_X1_init rfl (show Cond.methodLinkNest RX8 50 yX1_init RX8 ∈ nestW by decide +kernel) k_80 k_4 k_81 ⟨(Nat.le_of_ble_eq_true rfl), (Nat.le_of_ble_eq_true rfl)⟩ ⟨(Nat.le_of_ble_eq_true rfl), (Nat.le_of_ble_eq_true rfl)⟩ hl.1 (Nat.le_of_ble_eq_true rfl) rfl rfl dX8_init_81 hPc hDc) hP hD hS hA [12] [0, 1, 2, 3, 4, 5, 6, 7, 8, 9, 10, 11] (wr := [(h0, .inr (8, [.ref q_1, .ref q_2, .ref q_3, .ref q_4, .ref q_5, .ref q_6, .ref q_7, .ref q_11, .null, .null, .null, .null, .null, .int 0])), (q_1, .inl (E 0, 400, .inl (fun _ => 0))), (q_2, .inl (E 0, 16, .inl (fun _ => 0))), (q_3, .inl (E 0, 16, .inl (fun _ => 0))), (q_4, .inl (E 3, 16, .inr (.inr (.inr (.inr (fun _ => none)))))), (q_5, .inl (E 4, 5, .inr (.inr (.inr (.inr (fun _ => none)))))), (q_7, .inr (2, [.ref (u_8 0), .ref (u_8 1), .ref (u_8 2), .ref (u_8 3), .ref (u_8 4), .int 0])), ((u_8 0), .inl (E 0, 60, .inl (fun _ => 0))), ((u_8 1), .inl (E 0, 60, .inl (fun _ => 0))), ((u_8 2), .inl (E 0, 60, .inl (fun _ => 0))), ((u_8 3), .inl (E 0, 60, .inl (fun _ => 0))), ((u_8 4), .inl (E 0, 60, .inl (fun _ => 0)))]) rfl rfl (by decide) (by decide) (fun u_16 H locs hw_17 hP hD hS => ?_)
  clear hPc hDc
  have hP : va_P D vwCl [(h0, .inr (8, [.ref q_1, .ref q_2, .ref q_3, .ref q_4, .ref q_5, .ref q_6, .ref q_7, .ref q_11, .null, .null, .null, .null, .null, .int 0])), (q_1, .inl (E 0, 400, .inl (fun _ => 0))), (q_2, .inl (E 0, 16, .inl (fun _ => 0))), (q_3, .inl (E 0, 16, .inl (fun _ => 0))), (q_4, .inl (E 3, 16, .inr (.inr (.inr (.inr (fun _ => none)))))), (q_5, .inl (E 4, 5, .inr (.inr (.inr (.inr (fun _ => none)))))), (q_7, .inr (2, [.ref (u_8 0), .ref (u_8 1), .ref (u_8 2), .ref (u_8 3), .ref (u_8 4), .int 0])), ((u_8 0), .inl (E 0, 60, .inl (fun _ => 0))), ((u_8 1), .inl (E 0, 60, .inl (fun _ => 0))), ((u_8 2), .inl (E 0, 60, .inl (fun _ => 0))), ((u_8 3), .inl (E 0, 60, .inl (fun _ => 0))), ((u_8 4), .inl (E 0, 60, .inl (fun _ => 0)))] H := hP
  have hD : va_D A [(h0, .inr (8, [.ref q_1, .ref q_2, .ref q_3, .ref q_4, .ref q_5, .ref q_6, .ref q_7, .ref q_11, .null, .null, .null, .null, .null, .int 0])), (q_1, .inl (E 0, 400, .inl (fun _ => 0))), (q_2, .inl (E 0, 16, .inl (fun _ => 0))), (q_3, .inl (E 0, 16, .inl (fun _ => 0))), (q_4, .inl (E 3, 16, .inr (.inr (.inr (.inr (fun _ => none)))))), (q_5, .inl (E 4, 5, .inr (.inr (.inr (.inr (fun _ => none)))))), (q_7, .inr (2, [.ref (u_8 0), .ref (u_8 1), .ref (u_8 2), .ref (u_8 3), .ref (u_8 4), .int 0])), ((u_8 0), .inl (E 0, 60, .inl (fun _ => 0))), ((u_8 1), .inl (E 0, 60, .inl (fun _ => 0))), ((u_8 2), .inl (E 0, 60, .inl (fun _ => 0))), ((u_8 3), .inl (E 0, 60, .inl (fun _ => 0))), ((u_8 4), .inl (E 0, 60, .inl (fun _ => 0)))] := hD
  refine va_putF (D := D) (ci := 8) (v := .ref q_15) (ty := .object "SeaWatches$Fit") (C := RX8) (T := TX8) (N := 14) hx hb htb iX8 tyX8 tyX8_ok nmX8 hown hK.1 hP hD hS 0 rfl rfl 8 (by decide) (htb _ k_280) (fun _ h9 => h9) rfl hin rfl (by decide +kernel) rfl rfl (Nat.le_of_ble_eq_true rfl) dX8_init_84 (fun H locs hP hD hS => ?_)
  have hP : va_P D vwCl [(h0, .inr (8, [.ref q_1, .ref q_2, .ref q_3, .ref q_4, .ref q_5, .ref q_6, .ref q_7, .ref q_11, .ref q_15, .null, .null, .null, .null, .int 0])), (q_1, .inl (E 0, 400, .inl (fun _ => 0))), (q_2, .inl (E 0, 16, .inl (fun _ => 0))), (q_3, .inl (E 0, 16, .inl (fun _ => 0))), (q_4, .inl (E 3, 16, .inr (.inr (.inr (.inr (fun _ => none)))))), (q_5, .inl (E 4, 5, .inr (.inr (.inr (.inr (fun _ => none)))))), (q_7, .inr (2, [.ref (u_8 0), .ref (u_8 1), .ref (u_8 2), .ref (u_8 3), .ref (u_8 4), .int 0])), ((u_8 0), .inl (E 0, 60, .inl (fun _ => 0))), ((u_8 1), .inl (E 0, 60, .inl (fun _ => 0))), ((u_8 2), .inl (E 0, 60, .inl (fun _ => 0))), ((u_8 3), .inl (E 0, 60, .inl (fun _ => 0))), ((u_8 4), .inl (E 0, 60, .inl (fun _ => 0)))] H := hP
  have hD : va_D A [(h0, .inr (8, [.ref q_1, .ref q_2, .ref q_3, .ref q_4, .ref q_5, .ref q_6, .ref q_7, .ref q_11, .ref q_15, .null, .null, .null, .null, .int 0])), (q_1, .inl (E 0, 400, .inl (fun _ => 0))), (q_2, .inl (E 0, 16, .inl (fun _ => 0))), (q_3, .inl (E 0, 16, .inl (fun _ => 0))), (q_4, .inl (E 3, 16, .inr (.inr (.inr (.inr (fun _ => none)))))), (q_5, .inl (E 4, 5, .inr (.inr (.inr (.inr (fun _ => none)))))), (q_7, .inr (2, [.ref (u_8 0), .ref (u_8 1), .ref (u_8 2), .ref (u_8 3), .ref (u_8 4), .int 0])), ((u_8 0), .inl (E 0, 60, .inl (fun _ => 0))), ((u_8 1), .inl (E 0, 60, .inl (fun _ => 0))), ((u_8 2), .inl (E 0, 60, .inl (fun _ => 0))), ((u_8 3), .inl (E 0, 60, .inl (fun _ => 0))), ((u_8 4), .inl (E 0, 60, .inl (fun _ => 0)))] := hD
  refine lv_aload_n hx hb dX8_init_87 rfl (lv_at hl 0 rfl) ?_
  refine va_new (ci := 6) (fs := [.null, .int 0, .null, .null, .int 0, .int 0, .int 0, .int 0]) (C := RX6) (T := TX6) (N := 8) hx hb htb iX6 tyX6 tyX6_ok hown (htb _ k_129) (htb _ k_130) (htb _ k_5) hK.1 hP hD hS hA rfl (by decide) (Nat.le_of_ble_eq_true rfl) (Nat.le_of_ble_eq_true rfl) dX8_init_88 (fun q_19 H hP hD hS => ?_)
  have hP : va_P D vwCl [(h0, .inr (8, [.ref q_1, .ref q_2, .ref q_3, .ref q_4, .ref q_5, .ref q_6, .ref q_7, .ref q_11, .ref q_15, .null, .null, .null, .null, .int 0])), (q_1, .inl (E 0, 400, .inl (fun _ => 0))), (q_2, .inl (E 0, 16, .inl (fun _ => 0))), (q_3, .inl (E 0, 16, .inl (fun _ => 0))), (q_4, .inl (E 3, 16, .inr (.inr (.inr (.inr (fun _ => none)))))), (q_5, .inl (E 4, 5, .inr (.inr (.inr (.inr (fun _ => none)))))), (q_7, .inr (2, [.ref (u_8 0), .ref (u_8 1), .ref (u_8 2), .ref (u_8 3), .ref (u_8 4), .int 0])), ((u_8 0), .inl (E 0, 60, .inl (fun _ => 0))), ((u_8 1), .inl (E 0, 60, .inl (fun _ => 0))), ((u_8 2), .inl (E 0, 60, .inl (fun _ => 0))), ((u_8 3), .inl (E 0, 60, .inl (fun _ => 0))), ((u_8 4), .inl (E 0, 60, .inl (fun _ => 0))), (q_19, .inr (6, [.null, .int 0, .null, .null, .int 0, .int 0, .int 0, .int 0]))] H := hP
  have hD : va_D A [(h0, .inr (8, [.ref q_1, .ref q_2, .ref q_3, .ref q_4, .ref q_5, .ref q_6, .ref q_7, .ref q_11, .ref q_15, .null, .null, .null, .null, .int 0])), (q_1, .inl (E 0, 400, .inl (fun _ => 0))), (q_2, .inl (E 0, 16, .inl (fun _ => 0))), (q_3, .inl (E 0, 16, .inl (fun _ => 0))), (q_4, .inl (E 3, 16, .inr (.inr (.inr (.inr (fun _ => none)))))), (q_5, .inl (E 4, 5, .inr (.inr (.inr (.inr (fun _ => none)))))), (q_7, .inr (2, [.ref (u_8 0), .ref (u_8 1), .ref (u_8 2), .ref (u_8 3), .ref (u_8 4), .int 0])), ((u_8 0), .inl (E 0, 60, .inl (fun _ => 0))), ((u_8 1), .inl (E 0, 60, .inl (fun _ => 0))), ((u_8 2), .inl (E 0, 60, .inl (fun _ => 0))), ((u_8 3), .inl (E 0, 60, .inl (fun _ => 0))), ((u_8 4), .inl (E 0, 60, .inl (fun _ => 0))), (q_19, .inr (6, [.null, .int 0, .null, .null, .int 0, .int 0, .int 0, .int 0]))] := hD
  refine W.widen (k := 18) (n := 975) (Nat.le_of_ble_eq_true rfl) (Nat.le_of_ble_eq_true rfl) ?_
  refine lv_dup hx hb dX8_init_91 rfl ?_
  have hPc := hP.sub (ws' := [(q_19, .inr (6, [.null, .int 0, .null, .null, .int 0, .int 0, .int 0, .int 0]))]) [12] rfl
  have hDc := hD.sub (ws' := [(q_19, .inr (6, [.null, .int 0, .null, .null, .int 0, .int 0, .int 0, .int 0]))]) [12] (by decide) rfl
  refine aft_v (runMN (rest := [.ref q_19, .ref h0]) (As := []) hx hb hml hown htb hK (c_X6_init l D E q_19 _ ) ok_X6_init rfl (show Cond.methodLinkNest RX8 57 yX6_init RX8 ∈ nestW by decide +kernel) k_132 k_5 k_133 ⟨(Nat.le_of_ble_eq_true rfl), (Nat.le_of_ble_eq_true rfl)⟩ ⟨(Nat.le_of_ble_eq_true rfl), (Nat.le_of_ble_eq_true rfl)⟩ hl.1 (Nat.le_of_ble_eq_true rfl) rfl rfl dX8_init_92 hPc hDc) hP hD hS hA [12] [0, 1, 2, 3, 4, 5, 6, 7, 8, 9, 10, 11] (wr := [(h0, .inr (8, [.ref q_1, .ref q_2, .ref q_3, .ref q_4, .ref q_5, .ref q_6, .ref q_7, .ref q_11, .ref q_15, .null, .null, .null, .null, .int 0])), (q_1, .inl (E 0, 400, .inl (fun _ => 0))), (q_2, .inl (E 0, 16, .inl (fun _ => 0))), (q_3, .inl (E 0, 16, .inl (fun _ => 0))), (q_4, .inl (E 3, 16, .inr (.inr (.inr (.inr (fun _ => none)))))), (q_5, .inl (E 4, 5, .inr (.inr (.inr (.inr (fun _ => none)))))), (q_7, .inr (2, [.ref (u_8 0), .ref (u_8 1), .ref (u_8 2), .ref (u_8 3), .ref (u_8 4), .int 0])), ((u_8 0), .inl (E 0, 60, .inl (fun _ => 0))), ((u_8 1), .inl (E 0, 60, .inl (fun _ => 0))), ((u_8 2), .inl (E 0, 60, .inl (fun _ => 0))), ((u_8 3), .inl (E 0, 60, .inl (fun _ => 0))), ((u_8 4), .inl (E 0, 60, .inl (fun _ => 0)))]) rfl rfl (by decide) (by decide) (fun u_20 H locs hw_21 hP hD hS => ?_)
  clear hPc hDc
  have hP : va_P D vwCl [(h0, .inr (8, [.ref q_1, .ref q_2, .ref q_3, .ref q_4, .ref q_5, .ref q_6, .ref q_7, .ref q_11, .ref q_15, .null, .null, .null, .null, .int 0])), (q_1, .inl (E 0, 400, .inl (fun _ => 0))), (q_2, .inl (E 0, 16, .inl (fun _ => 0))), (q_3, .inl (E 0, 16, .inl (fun _ => 0))), (q_4, .inl (E 3, 16, .inr (.inr (.inr (.inr (fun _ => none)))))), (q_5, .inl (E 4, 5, .inr (.inr (.inr (.inr (fun _ => none)))))), (q_7, .inr (2, [.ref (u_8 0), .ref (u_8 1), .ref (u_8 2), .ref (u_8 3), .ref (u_8 4), .int 0])), ((u_8 0), .inl (E 0, 60, .inl (fun _ => 0))), ((u_8 1), .inl (E 0, 60, .inl (fun _ => 0))), ((u_8 2), .inl (E 0, 60, .inl (fun _ => 0))), ((u_8 3), .inl (E 0, 60, .inl (fun _ => 0))), ((u_8 4), .inl (E 0, 60, .inl (fun _ => 0))), (q_19, .inr (6, [.ref (u_20 0), .int 0, .ref (u_20 1), .ref (E 5), .int 0, .int 0, .int 0, .int 0])), ((u_20 0), .inl (E 0, 120, .inl (fun _ => 0))), ((u_20 1), .inr (4, [.ref (u_20 2), .ref (u_20 3), .ref (u_20 4), .int 0]))] H := hP
  have hD : va_D A [(h0, .inr (8, [.ref q_1, .ref q_2, .ref q_3, .ref q_4, .ref q_5, .ref q_6, .ref q_7, .ref q_11, .ref q_15, .null, .null, .null, .null, .int 0])), (q_1, .inl (E 0, 400, .inl (fun _ => 0))), (q_2, .inl (E 0, 16, .inl (fun _ => 0))), (q_3, .inl (E 0, 16, .inl (fun _ => 0))), (q_4, .inl (E 3, 16, .inr (.inr (.inr (.inr (fun _ => none)))))), (q_5, .inl (E 4, 5, .inr (.inr (.inr (.inr (fun _ => none)))))), (q_7, .inr (2, [.ref (u_8 0), .ref (u_8 1), .ref (u_8 2), .ref (u_8 3), .ref (u_8 4), .int 0])), ((u_8 0), .inl (E 0, 60, .inl (fun _ => 0))), ((u_8 1), .inl (E 0, 60, .inl (fun _ => 0))), ((u_8 2), .inl (E 0, 60, .inl (fun _ => 0))), ((u_8 3), .inl (E 0, 60, .inl (fun _ => 0))), ((u_8 4), .inl (E 0, 60, .inl (fun _ => 0))), (q_19, .inr (6, [.ref (u_20 0), .int 0, .ref (u_20 1), .ref (E 5), .int 0, .int 0, .int 0, .int 0])), ((u_20 0), .inl (E 0, 120, .inl (fun _ => 0))), ((u_20 1), .inr (4, [.ref (u_20 2), .ref (u_20 3), .ref (u_20 4), .int 0]))] := hD
  refine W.widen (k := 23) (n := 1459) (Nat.le_of_ble_eq_true rfl) (Nat.le_of_ble_eq_true rfl) ?_
  refine va_putF (D := D) (ci := 8) (v := .ref q_19) (ty := .object "SeaWatches$Tape") (C := RX8) (T := TX8) (N := 14) hx hb htb iX8 tyX8 tyX8_ok nmX8 hown hK.1 hP hD hS 0 rfl rfl 9 (by decide) (htb _ k_281) (fun _ h9 => h9) rfl hin rfl (by decide +kernel) rfl rfl (Nat.le_of_ble_eq_true rfl) dX8_init_95 (fun H locs hP hD hS => ?_)
  have hP : va_P D vwCl [(h0, .inr (8, [.ref q_1, .ref q_2, .ref q_3, .ref q_4, .ref q_5, .ref q_6, .ref q_7, .ref q_11, .ref q_15, .ref q_19, .null, .null, .null, .int 0])), (q_1, .inl (E 0, 400, .inl (fun _ => 0))), (q_2, .inl (E 0, 16, .inl (fun _ => 0))), (q_3, .inl (E 0, 16, .inl (fun _ => 0))), (q_4, .inl (E 3, 16, .inr (.inr (.inr (.inr (fun _ => none)))))), (q_5, .inl (E 4, 5, .inr (.inr (.inr (.inr (fun _ => none)))))), (q_7, .inr (2, [.ref (u_8 0), .ref (u_8 1), .ref (u_8 2), .ref (u_8 3), .ref (u_8 4), .int 0])), ((u_8 0), .inl (E 0, 60, .inl (fun _ => 0))), ((u_8 1), .inl (E 0, 60, .inl (fun _ => 0))), ((u_8 2), .inl (E 0, 60, .inl (fun _ => 0))), ((u_8 3), .inl (E 0, 60, .inl (fun _ => 0))), ((u_8 4), .inl (E 0, 60, .inl (fun _ => 0))), (q_19, .inr (6, [.ref (u_20 0), .int 0, .ref (u_20 1), .ref (E 5), .int 0, .int 0, .int 0, .int 0])), ((u_20 0), .inl (E 0, 120, .inl (fun _ => 0))), ((u_20 1), .inr (4, [.ref (u_20 2), .ref (u_20 3), .ref (u_20 4), .int 0]))] H := hP
  have hD : va_D A [(h0, .inr (8, [.ref q_1, .ref q_2, .ref q_3, .ref q_4, .ref q_5, .ref q_6, .ref q_7, .ref q_11, .ref q_15, .ref q_19, .null, .null, .null, .int 0])), (q_1, .inl (E 0, 400, .inl (fun _ => 0))), (q_2, .inl (E 0, 16, .inl (fun _ => 0))), (q_3, .inl (E 0, 16, .inl (fun _ => 0))), (q_4, .inl (E 3, 16, .inr (.inr (.inr (.inr (fun _ => none)))))), (q_5, .inl (E 4, 5, .inr (.inr (.inr (.inr (fun _ => none)))))), (q_7, .inr (2, [.ref (u_8 0), .ref (u_8 1), .ref (u_8 2), .ref (u_8 3), .ref (u_8 4), .int 0])), ((u_8 0), .inl (E 0, 60, .inl (fun _ => 0))), ((u_8 1), .inl (E 0, 60, .inl (fun _ => 0))), ((u_8 2), .inl (E 0, 60, .inl (fun _ => 0))), ((u_8 3), .inl (E 0, 60, .inl (fun _ => 0))), ((u_8 4), .inl (E 0, 60, .inl (fun _ => 0))), (q_19, .inr (6, [.ref (u_20 0), .int 0, .ref (u_20 1), .ref (E 5), .int 0, .int 0, .int 0, .int 0])), ((u_20 0), .inl (E 0, 120, .inl (fun _ => 0))), ((u_20 1), .inr (4, [.ref (u_20 2), .ref (u_20 3), .ref (u_20 4), .int 0]))] := hD
  refine lv_aload_n hx hb dX8_init_98 rfl (lv_at hl 0 rfl) ?_
  refine va_new (ci := 0) (fs := [.null, .null, .null, .null, .null, .int 0, .int 0, .int 0, .int 0]) (C := RX0) (T := TX0) (N := 9) hx hb htb iX0 tyX0 tyX0_ok hown (htb _ k_184) (htb _ k_185) (htb _ k_7) hK.1 hP hD hS hA rfl (by decide) (Nat.le_of_ble_eq_true rfl) (Nat.le_of_ble_eq_true rfl) dX8_init_99 (fun q_23 H hP hD hS => ?_)
  have hP : va_P D vwCl [(h0, .inr (8, [.ref q_1, .ref q_2, .ref q_3, .ref q_4, .ref q_5, .ref q_6, .ref q_7, .ref q_11, .ref q_15, .ref q_19, .null, .null, .null, .int 0])), (q_1, .inl (E 0, 400, .inl (fun _ => 0))), (q_2, .inl (E 0, 16, .inl (fun _ => 0))), (q_3, .inl (E 0, 16, .inl (fun _ => 0))), (q_4, .inl (E 3, 16, .inr (.inr (.inr (.inr (fun _ => none)))))), (q_5, .inl (E 4, 5, .inr (.inr (.inr (.inr (fun _ => none)))))), (q_7, .inr (2, [.ref (u_8 0), .ref (u_8 1), .ref (u_8 2), .ref (u_8 3), .ref (u_8 4), .int 0])), ((u_8 0), .inl (E 0, 60, .inl (fun _ => 0))), ((u_8 1), .inl (E 0, 60, .inl (fun _ => 0))), ((u_8 2), .inl (E 0, 60, .inl (fun _ => 0))), ((u_8 3), .inl (E 0, 60, .inl (fun _ => 0))), ((u_8 4), .inl (E 0, 60, .inl (fun _ => 0))), (q_19, .inr (6, [.ref (u_20 0), .int 0, .ref (u_20 1), .ref (E 5), .int 0, .int 0, .int 0, .int 0])), ((u_20 0), .inl (E 0, 120, .inl (fun _ => 0))), ((u_20 1), .inr (4, [.ref (u_20 2), .ref (u_20 3), .ref (u_20 4), .int 0])), (q_23, .inr (0, [.null, .null, .null, .null, .null, .int 0, .int 0, .int 0, .int 0]))] H := hP
  have hD : va_D A [(h0, .inr (8, [.ref q_1, .ref q_2, .ref q_3, .ref q_4, .ref q_5, .ref q_6, .ref q_7, .ref q_11, .ref q_15, .ref q_19, .null, .null, .null, .int 0])), (q_1, .inl (E 0, 400, .inl (fun _ => 0))), (q_2, .inl (E 0, 16, .inl (fun _ => 0))), (q_3, .inl (E 0, 16, .inl (fun _ => 0))), (q_4, .inl (E 3, 16, .inr (.inr (.inr (.inr (fun _ => none)))))), (q_5, .inl (E 4, 5, .inr (.inr (.inr (.inr (fun _ => none)))))), (q_7, .inr (2, [.ref (u_8 0), .ref (u_8 1), .ref (u_8 2), .ref (u_8 3), .ref (u_8 4), .int 0])), ((u_8 0), .inl (E 0, 60, .inl (fun _ => 0))), ((u_8 1), .inl (E 0, 60, .inl (fun _ => 0))), ((u_8 2), .inl (E 0, 60, .inl (fun _ => 0))), ((u_8 3), .inl (E 0, 60, .inl (fun _ => 0))), ((u_8 4), .inl (E 0, 60, .inl (fun _ => 0))), (q_19, .inr (6, [.ref (u_20 0), .int 0, .ref (u_20 1), .ref (E 5), .int 0, .int 0, .int 0, .int 0])), ((u_20 0), .inl (E 0, 120, .inl (fun _ => 0))), ((u_20 1), .inr (4, [.ref (u_20 2), .ref (u_20 3), .ref (u_20 4), .int 0])), (q_23, .inr (0, [.null, .null, .null, .null, .null, .int 0, .int 0, .int 0, .int 0]))] := hD
  refine W.widen (k := 24) (n := 1468) (Nat.le_of_ble_eq_true rfl) (Nat.le_of_ble_eq_true rfl) ?_
  refine lv_dup hx hb dX8_init_102 rfl ?_
  have hPc := hP.sub (ws' := [(q_23, .inr (0, [.null, .null, .null, .null, .null, .int 0, .int 0, .int 0, .int 0]))]) [15] rfl
  have hDc := hD.sub (ws' := [(q_23, .inr (0, [.null, .null, .null, .null, .null, .int 0, .int 0, .int 0, .int 0]))]) [15] (by decide) rfl
  refine aft_v (runMN (rest := [.ref q_23, .ref h0]) (As := []) hx hb hml hown htb hK (c_X0_init l D E q_23 _ ) ok_X0_init rfl (show Cond.methodLinkNest RX8 64 yX0_init RX8 ∈ nestW by decide +kernel) k_187 k_7 k_188 ⟨(Nat.le_of_ble_eq_true rfl), (Nat.le_of_ble_eq_true rfl)⟩ ⟨(Nat.le_of_ble_eq_true rfl), (Nat.le_of_ble_eq_true rfl)⟩ hl.1 (Nat.le_of_ble_eq_true rfl) rfl rfl dX8_init_103 hPc hDc) hP hD hS hA [15] [0, 1, 2, 3, 4, 5, 6, 7, 8, 9, 10, 11, 12, 13, 14] (wr := [(h0, .inr (8, [.ref q_1, .ref q_2, .ref q_3, .ref q_4, .ref q_5, .ref q_6, .ref q_7, .ref q_11, .ref q_15, .ref q_19, .null, .null, .null, .int 0])), (q_1, .inl (E 0, 400, .inl (fun _ => 0))), (q_2, .inl (E 0, 16, .inl (fun _ => 0))), (q_3, .inl (E 0, 16, .inl (fun _ => 0))), (q_4, .inl (E 3, 16, .inr (.inr (.inr (.inr (fun _ => none)))))), (q_5, .inl (E 4, 5, .inr (.inr (.inr (.inr (fun _ => none)))))), (q_7, .inr (2, [.ref (u_8 0), .ref (u_8 1), .ref (u_8 2), .ref (u_8 3), .ref (u_8 4), .int 0])), ((u_8 0), .inl (E 0, 60, .inl (fun _ => 0))), ((u_8 1), .inl (E 0, 60, .inl (fun _ => 0))), ((u_8 2), .inl (E 0, 60, .inl (fun _ => 0))), ((u_8 3), .inl (E 0, 60, .inl (fun _ => 0))), ((u_8 4), .inl (E 0, 60, .inl (fun _ => 0))), (q_19, .inr (6, [.ref (u_20 0), .int 0, .ref (u_20 1), .ref (E 5), .int 0, .int 0, .int 0, .int 0])), ((u_20 0), .inl (E 0, 120, .inl (fun _ => 0))), ((u_20 1), .inr (4, [.ref (u_20 2), .ref (u_20 3), .ref (u_20 4), .int 0]))]) rfl rfl (by decide) (by decide) (fun u_24 H locs hw_25 hP hD hS => ?_)
  clear hPc hDc
  have hP : va_P D vwCl [(h0, .inr (8, [.ref q_1, .ref q_2, .ref q_3, .ref q_4, .ref q_5, .ref q_6, .ref q_7, .ref q_11, .ref q_15, .ref q_19, .null, .null, .null, .int 0])), (q_1, .inl (E 0, 400, .inl (fun _ => 0))), (q_2, .inl (E 0, 16, .inl (fun _ => 0))), (q_3, .inl (E 0, 16, .inl (fun _ => 0))), (q_4, .inl (E 3, 16, .inr (.inr (.inr (.inr (fun _ => none)))))), (q_5, .inl (E 4, 5, .inr (.inr (.inr (.inr (fun _ => none)))))), (q_7, .inr (2, [.ref (u_8 0), .ref (u_8 1), .ref (u_8 2), .ref (u_8 3), .ref (u_8 4), .int 0])), ((u_8 0), .inl (E 0, 60, .inl (fun _ => 0))), ((u_8 1), .inl (E 0, 60, .inl (fun _ => 0))), ((u_8 2), .inl (E 0, 60, .inl (fun _ => 0))), ((u_8 3), .inl (E 0, 60, .inl (fun _ => 0))), ((u_8 4), .inl (E 0, 60, .inl (fun _ => 0))), (q_19, .inr (6, [.ref (u_20 0), .int 0, .ref (u_20 1), .ref (E 5), .int 0, .int 0, .int 0, .int 0])), ((u_20 0), .inl (E 0, 120, .inl (fun _ => 0))), ((u_20 1), .inr (4, [.ref (u_20 2), .ref (u_20 3), .ref (u_20 4), .int 0])), (q_23, .inr (0, [.ref (u_24 0), .ref (u_24 1), .ref (u_24 2), .ref (u_24 3), .ref (u_24 4), .int 0, .int 0, .int 0, .int 0])), ((u_24 0), .inl (E 0, 9, .inl (fun _ => 0)))] H := hP
  have hD : va_D A [(h0, .inr (8, [.ref q_1, .ref q_2, .ref q_3, .ref q_4, .ref q_5, .ref q_6, .ref q_7, .ref q_11, .ref q_15, .ref q_19, .null, .null, .null, .int 0])), (q_1, .inl (E 0, 400, .inl (fun _ => 0))), (q_2, .inl (E 0, 16, .inl (fun _ => 0))), (q_3, .inl (E 0, 16, .inl (fun _ => 0))), (q_4, .inl (E 3, 16, .inr (.inr (.inr (.inr (fun _ => none)))))), (q_5, .inl (E 4, 5, .inr (.inr (.inr (.inr (fun _ => none)))))), (q_7, .inr (2, [.ref (u_8 0), .ref (u_8 1), .ref (u_8 2), .ref (u_8 3), .ref (u_8 4), .int 0])), ((u_8 0), .inl (E 0, 60, .inl (fun _ => 0))), ((u_8 1), .inl (E 0, 60, .inl (fun _ => 0))), ((u_8 2), .inl (E 0, 60, .inl (fun _ => 0))), ((u_8 3), .inl (E 0, 60, .inl (fun _ => 0))), ((u_8 4), .inl (E 0, 60, .inl (fun _ => 0))), (q_19, .inr (6, [.ref (u_20 0), .int 0, .ref (u_20 1), .ref (E 5), .int 0, .int 0, .int 0, .int 0])), ((u_20 0), .inl (E 0, 120, .inl (fun _ => 0))), ((u_20 1), .inr (4, [.ref (u_20 2), .ref (u_20 3), .ref (u_20 4), .int 0])), (q_23, .inr (0, [.ref (u_24 0), .ref (u_24 1), .ref (u_24 2), .ref (u_24 3), .ref (u_24 4), .int 0, .int 0, .int 0, .int 0])), ((u_24 0), .inl (E 0, 9, .inl (fun _ => 0)))] := hD
  refine W.widen (k := 29) (n := 1501) (Nat.le_of_ble_eq_true rfl) (Nat.le_of_ble_eq_true rfl) ?_
  refine va_putF (D := D) (ci := 8) (v := .ref q_23) (ty := .object "SeaWatches$Dealing") (C := RX8) (T := TX8) (N := 14) hx hb htb iX8 tyX8 tyX8_ok nmX8 hown hK.1 hP hD hS 0 rfl rfl 10 (by decide) (htb _ k_282) (fun _ h9 => h9) rfl hin rfl (by decide +kernel) rfl rfl (Nat.le_of_ble_eq_true rfl) dX8_init_106 (fun H locs hP hD hS => ?_)
  have hP : va_P D vwCl [(h0, .inr (8, [.ref q_1, .ref q_2, .ref q_3, .ref q_4, .ref q_5, .ref q_6, .ref q_7, .ref q_11, .ref q_15, .ref q_19, .ref q_23, .null, .null, .int 0])), (q_1, .inl (E 0, 400, .inl (fun _ => 0))), (q_2, .inl (E 0, 16, .inl (fun _ => 0))), (q_3, .inl (E 0, 16, .inl (fun _ => 0))), (q_4, .inl (E 3, 16, .inr (.inr (.inr (.inr (fun _ => none)))))), (q_5, .inl (E 4, 5, .inr (.inr (.inr (.inr (fun _ => none)))))), (q_7, .inr (2, [.ref (u_8 0), .ref (u_8 1), .ref (u_8 2), .ref (u_8 3), .ref (u_8 4), .int 0])), ((u_8 0), .inl (E 0, 60, .inl (fun _ => 0))), ((u_8 1), .inl (E 0, 60, .inl (fun _ => 0))), ((u_8 2), .inl (E 0, 60, .inl (fun _ => 0))), ((u_8 3), .inl (E 0, 60, .inl (fun _ => 0))), ((u_8 4), .inl (E 0, 60, .inl (fun _ => 0))), (q_19, .inr (6, [.ref (u_20 0), .int 0, .ref (u_20 1), .ref (E 5), .int 0, .int 0, .int 0, .int 0])), ((u_20 0), .inl (E 0, 120, .inl (fun _ => 0))), ((u_20 1), .inr (4, [.ref (u_20 2), .ref (u_20 3), .ref (u_20 4), .int 0])), (q_23, .inr (0, [.ref (u_24 0), .ref (u_24 1), .ref (u_24 2), .ref (u_24 3), .ref (u_24 4), .int 0, .int 0, .int 0, .int 0])), ((u_24 0), .inl (E 0, 9, .inl (fun _ => 0)))] H := hP
  have hD : va_D A [(h0, .inr (8, [.ref q_1, .ref q_2, .ref q_3, .ref q_4, .ref q_5, .ref q_6, .ref q_7, .ref q_11, .ref q_15, .ref q_19, .ref q_23, .null, .null, .int 0])), (q_1, .inl (E 0, 400, .inl (fun _ => 0))), (q_2, .inl (E 0, 16, .inl (fun _ => 0))), (q_3, .inl (E 0, 16, .inl (fun _ => 0))), (q_4, .inl (E 3, 16, .inr (.inr (.inr (.inr (fun _ => none)))))), (q_5, .inl (E 4, 5, .inr (.inr (.inr (.inr (fun _ => none)))))), (q_7, .inr (2, [.ref (u_8 0), .ref (u_8 1), .ref (u_8 2), .ref (u_8 3), .ref (u_8 4), .int 0])), ((u_8 0), .inl (E 0, 60, .inl (fun _ => 0))), ((u_8 1), .inl (E 0, 60, .inl (fun _ => 0))), ((u_8 2), .inl (E 0, 60, .inl (fun _ => 0))), ((u_8 3), .inl (E 0, 60, .inl (fun _ => 0))), ((u_8 4), .inl (E 0, 60, .inl (fun _ => 0))), (q_19, .inr (6, [.ref (u_20 0), .int 0, .ref (u_20 1), .ref (E 5), .int 0, .int 0, .int 0, .int 0])), ((u_20 0), .inl (E 0, 120, .inl (fun _ => 0))), ((u_20 1), .inr (4, [.ref (u_20 2), .ref (u_20 3), .ref (u_20 4), .int 0])), (q_23, .inr (0, [.ref (u_24 0), .ref (u_24 1), .ref (u_24 2), .ref (u_24 3), .ref (u_24 4), .int 0, .int 0, .int 0, .int 0])), ((u_24 0), .inl (E 0, 9, .inl (fun _ => 0)))] := hD
  refine lv_aload_n hx hb dX8_init_109 rfl (lv_at hl 0 rfl) ?_
  refine va_new (ci := 4) (fs := [.null, .null, .null, .int 0]) (C := RX4) (T := TX4) (N := 4) hx hb htb iX4 tyX4 tyX4_ok hown (htb _ k_221) (htb _ k_136) (htb _ k_6) hK.1 hP hD hS hA rfl (by decide) (Nat.le_of_ble_eq_true rfl) (Nat.le_of_ble_eq_true rfl) dX8_init_110 (fun q_27 H hP hD hS => ?_)
  have hP : va_P D vwCl [(h0, .inr (8, [.ref q_1, .ref q_2, .ref q_3, .ref q_4, .ref q_5, .ref q_6, .ref q_7, .ref q_11, .ref q_15, .ref q_19, .ref q_23, .null, .null, .int 0])), (q_1, .inl (E 0, 400, .inl (fun _ => 0))), (q_2, .inl (E 0, 16, .inl (fun _ => 0))), (q_3, .inl (E 0, 16, .inl (fun _ => 0))), (q_4, .inl (E 3, 16, .inr (.inr (.inr (.inr (fun _ => none)))))), (q_5, .inl (E 4, 5, .inr (.inr (.inr (.inr (fun _ => none)))))), (q_7, .inr (2, [.ref (u_8 0), .ref (u_8 1), .ref (u_8 2), .ref (u_8 3), .ref (u_8 4), .int 0])), ((u_8 0), .inl (E 0, 60, .inl (fun _ => 0))), ((u_8 1), .inl (E 0, 60, .inl (fun _ => 0))), ((u_8 2), .inl (E 0, 60, .inl (fun _ => 0))), ((u_8 3), .inl (E 0, 60, .inl (fun _ => 0))), ((u_8 4), .inl (E 0, 60, .inl (fun _ => 0))), (q_19, .inr (6, [.ref (u_20 0), .int 0, .ref (u_20 1), .ref (E 5), .int 0, .int 0, .int 0, .int 0])), ((u_20 0), .inl (E 0, 120, .inl (fun _ => 0))), ((u_20 1), .inr (4, [.ref (u_20 2), .ref (u_20 3), .ref (u_20 4), .int 0])), (q_23, .inr (0, [.ref (u_24 0), .ref (u_24 1), .ref (u_24 2), .ref (u_24 3), .ref (u_24 4), .int 0, .int 0, .int 0, .int 0])), ((u_24 0), .inl (E 0, 9, .inl (fun _ => 0))), (q_27, .inr (4, [.null, .null, .null, .int 0]))] H := hP
  have hD : va_D A [(h0, .inr (8, [.ref q_1, .ref q_2, .ref q_3, .ref q_4, .ref q_5, .ref q_6, .ref q_7, .ref q_11, .ref q_15, .ref q_19, .ref q_23, .null, .null, .int 0])), (q_1, .inl (E 0, 400, .inl (fun _ => 0))), (q_2, .inl (E 0, 16, .inl (fun _ => 0))), (q_3, .inl (E 0, 16, .inl (fun _ => 0))), (q_4, .inl (E 3, 16, .inr (.inr (.inr (.inr (fun _ => none)))))), (q_5, .inl (E 4, 5, .inr (.inr (.inr (.inr (fun _ => none)))))), (q_7, .inr (2, [.ref (u_8 0), .ref (u_8 1), .ref (u_8 2), .ref (u_8 3), .ref (u_8 4), .int 0])), ((u_8 0), .inl (E 0, 60, .inl (fun _ => 0))), ((u_8 1), .inl (E 0, 60, .inl (fun _ => 0))), ((u_8 2), .inl (E 0, 60, .inl (fun _ => 0))), ((u_8 3), .inl (E 0, 60, .inl (fun _ => 0))), ((u_8 4), .inl (E 0, 60, .inl (fun _ => 0))), (q_19, .inr (6, [.ref (u_20 0), .int 0, .ref (u_20 1), .ref (E 5), .int 0, .int 0, .int 0, .int 0])), ((u_20 0), .inl (E 0, 120, .inl (fun _ => 0))), ((u_20 1), .inr (4, [.ref (u_20 2), .ref (u_20 3), .ref (u_20 4), .int 0])), (q_23, .inr (0, [.ref (u_24 0), .ref (u_24 1), .ref (u_24 2), .ref (u_24 3), .ref (u_24 4), .int 0, .int 0, .int 0, .int 0])), ((u_24 0), .inl (E 0, 9, .inl (fun _ => 0))), (q_27, .inr (4, [.null, .null, .null, .int 0]))] := hD
  refine W.widen (k := 30) (n := 1505) (Nat.le_of_ble_eq_true rfl) (Nat.le_of_ble_eq_true rfl) ?_
  refine lv_dup hx hb dX8_init_113 rfl ?_
  have hPc := hP.sub (ws' := [(q_27, .inr (4, [.null, .null, .null, .int 0]))]) [17] rfl
  have hDc := hD.sub (ws' := [(q_27, .inr (4, [.null, .null, .null, .int 0]))]) [17] (by decide) rfl
  refine aft_v (runMN (rest := [.ref q_27, .ref h0]) (As := []) hx hb hml hown htb hK (c_X4_init l D E q_27 _ ) ok_X4_init rfl (show Cond.methodLinkNest RX8 71 yX4_init RX8 ∈ nestW by decide +kernel) k_138 k_6 k_139 ⟨(Nat.le_of_ble_eq_true rfl), (Nat.le_of_ble_eq_true rfl)⟩ ⟨(Nat.le_of_ble_eq_true rfl), (Nat.le_of_ble_eq_true rfl)⟩ hl.1 (Nat.le_of_ble_eq_true rfl) rfl rfl dX8_init_114 hPc hDc) hP hD hS hA [17] [0, 1, 2, 3, 4, 5, 6, 7, 8, 9, 10, 11, 12, 13, 14, 15, 16] (wr := [(h0, .inr (8, [.ref q_1, .ref q_2, .ref q_3, .ref q_4, .ref q_5, .ref q_6, .ref q_7, .ref q_11, .ref q_15, .ref q_19, .ref q_23, .null, .null, .int 0])), (q_1, .inl (E 0, 400, .inl (fun _ => 0))), (q_2, .inl (E 0, 16, .inl (fun _ => 0))), (q_3, .inl (E 0, 16, .inl (fun _ => 0))), (q_4, .inl (E 3, 16, .inr (.inr (.inr (.inr (fun _ => none)))))), (q_5, .inl (E 4, 5, .inr (.inr (.inr (.inr (fun _ => none)))))), (q_7, .inr (2, [.ref (u_8 0), .ref (u_8 1), .ref (u_8 2), .ref (u_8 3), .ref (u_8 4), .int 0])), ((u_8 0), .inl (E 0, 60, .inl (fun _ => 0))), ((u_8 1), .inl (E 0, 60, .inl (fun _ => 0))), ((u_8 2), .inl (E 0, 60, .inl (fun _ => 0))), ((u_8 3), .inl (E 0, 60, .inl (fun _ => 0))), ((u_8 4), .inl (E 0, 60, .inl (fun _ => 0))), (q_19, .inr (6, [.ref (u_20 0), .int 0, .ref (u_20 1), .ref (E 5), .int 0, .int 0, .int 0, .int 0])), ((u_20 0), .inl (E 0, 120, .inl (fun _ => 0))), ((u_20 1), .inr (4, [.ref (u_20 2), .ref (u_20 3), .ref (u_20 4), .int 0])), (q_23, .inr (0, [.ref (u_24 0), .ref (u_24 1), .ref (u_24 2), .ref (u_24 3), .ref (u_24 4), .int 0, .int 0, .int 0, .int 0])), ((u_24 0), .inl (E 0, 9, .inl (fun _ => 0)))]) rfl rfl (by decide) (by decide) (fun u_28 H locs hw_29 hP hD hS => ?_)
  clear hPc hDc
  have hP : va_P D vwCl [(h0, .inr (8, [.ref q_1, .ref q_2, .ref q_3, .ref q_4, .ref q_5, .ref q_6, .ref q_7, .ref q_11, .ref q_15, .ref q_19, .ref q_23, .null, .null, .int 0])), (q_1, .inl (E 0, 400, .inl (fun _ => 0))), (q_2, .inl (E 0, 16, .inl (fun _ => 0))), (q_3, .inl (E 0, 16, .inl (fun _ => 0))), (q_4, .inl (E 3, 16, .inr (.inr (.inr (.inr (fun _ => none)))))), (q_5, .inl (E 4, 5, .inr (.inr (.inr (.inr (fun _ => none)))))), (q_7, .inr (2, [.ref (u_8 0), .ref (u_8 1), .ref (u_8 2), .ref (u_8 3), .ref (u_8 4), .int 0])), ((u_8 0), .inl (E 0, 60, .inl (fun _ => 0))), ((u_8 1), .inl (E 0, 60, .inl (fun _ => 0))), ((u_8 2), .inl (E 0, 60, .inl (fun _ => 0))), ((u_8 3), .inl (E 0, 60, .inl (fun _ => 0))), ((u_8 4), .inl (E 0, 60, .inl (fun _ => 0))), (q_19, .inr (6, [.ref (u_20 0), .int 0, .ref (u_20 1), .ref (E 5), .int 0, .int 0, .int 0, .int 0])), ((u_20 0), .inl (E 0, 120, .inl (fun _ => 0))), ((u_20 1), .inr (4, [.ref (u_20 2), .ref (u_20 3), .ref (u_20 4), .int 0])), (q_23, .inr (0, [.ref (u_24 0), .ref (u_24 1), .ref (u_24 2), .ref (u_24 3), .ref (u_24 4), .int 0, .int 0, .int 0, .int 0])), ((u_24 0), .inl (E 0, 9, .inl (fun _ => 0))), (q_27, .inr (4, [.ref (u_28 0), .ref (u_28 1), .ref (u_28 2), .int 0]))] H := hP
  have hD : va_D A [(h0, .inr (8, [.ref q_1, .ref q_2, .ref q_3, .ref q_4, .ref q_5, .ref q_6, .ref q_7, .ref q_11, .ref q_15, .ref q_19, .ref q_23, .null, .null, .int 0])), (q_1, .inl (E 0, 400, .inl (fun _ => 0))), (q_2, .inl (E 0, 16, .inl (fun _ => 0))), (q_3, .inl (E 0, 16, .inl (fun _ => 0))), (q_4, .inl (E 3, 16, .inr (.inr (.inr (.inr (fun _ => none)))))), (q_5, .inl (E 4, 5, .inr (.inr (.inr (.inr (fun _ => none)))))), (q_7, .inr (2, [.ref (u_8 0), .ref (u_8 1), .ref (u_8 2), .ref (u_8 3), .ref (u_8 4), .int 0])), ((u_8 0), .inl (E 0, 60, .inl (fun _ => 0))), ((u_8 1), .inl (E 0, 60, .inl (fun _ => 0))), ((u_8 2), .inl (E 0, 60, .inl (fun _ => 0))), ((u_8 3), .inl (E 0, 60, .inl (fun _ => 0))), ((u_8 4), .inl (E 0, 60, .inl (fun _ => 0))), (q_19, .inr (6, [.ref (u_20 0), .int 0, .ref (u_20 1), .ref (E 5), .int 0, .int 0, .int 0, .int 0])), ((u_20 0), .inl (E 0, 120, .inl (fun _ => 0))), ((u_20 1), .inr (4, [.ref (u_20 2), .ref (u_20 3), .ref (u_20 4), .int 0])), (q_23, .inr (0, [.ref (u_24 0), .ref (u_24 1), .ref (u_24 2), .ref (u_24 3), .ref (u_24 4), .int 0, .int 0, .int 0, .int 0])), ((u_24 0), .inl (E 0, 9, .inl (fun _ => 0))), (q_27, .inr (4, [.ref (u_28 0), .ref (u_28 1), .ref (u_28 2), .int 0]))] := hD
  refine W.widen (k := 33) (n := 1865) (Nat.le_of_ble_eq_true rfl) (Nat.le_of_ble_eq_true rfl) ?_
  refine va_put (D := D) (ci := 8) (v := .ref q_27) (ty := .object "SeaWatches$Rule") (C := RX8) (T := TX8) (N := 14) hx hb htb iX8 tyX8 tyX8_ok nmX8 hown hK.1 hP hD hS 0 rfl rfl 11 (by decide) (htb _ k_283) (fun _ h9 => h9) rfl (by decide +kernel) rfl rfl (Nat.le_of_ble_eq_true rfl) dX8_init_117 (fun H locs hP hD hS => ?_)
  have hP : va_P D vwCl [(h0, .inr (8, [.ref q_1, .ref q_2, .ref q_3, .ref q_4, .ref q_5, .ref q_6, .ref q_7, .ref q_11, .ref q_15, .ref q_19, .ref q_23, .ref q_27, .null, .int 0])), (q_1, .inl (E 0, 400, .inl (fun _ => 0))), (q_2, .inl (E 0, 16, .inl (fun _ => 0))), (q_3, .inl (E 0, 16, .inl (fun _ => 0))), (q_4, .inl (E 3, 16, .inr (.inr (.inr (.inr (fun _ => none)))))), (q_5, .inl (E 4, 5, .inr (.inr (.inr (.inr (fun _ => none)))))), (q_7, .inr (2, [.ref (u_8 0), .ref (u_8 1), .ref (u_8 2), .ref (u_8 3), .ref (u_8 4), .int 0])), ((u_8 0), .inl (E 0, 60, .inl (fun _ => 0))), ((u_8 1), .inl (E 0, 60, .inl (fun _ => 0))), ((u_8 2), .inl (E 0, 60, .inl (fun _ => 0))), ((u_8 3), .inl (E 0, 60, .inl (fun _ => 0))), ((u_8 4), .inl (E 0, 60, .inl (fun _ => 0))), (q_19, .inr (6, [.ref (u_20 0), .int 0, .ref (u_20 1), .ref (E 5), .int 0, .int 0, .int 0, .int 0])), ((u_20 0), .inl (E 0, 120, .inl (fun _ => 0))), ((u_20 1), .inr (4, [.ref (u_20 2), .ref (u_20 3), .ref (u_20 4), .int 0])), (q_23, .inr (0, [.ref (u_24 0), .ref (u_24 1), .ref (u_24 2), .ref (u_24 3), .ref (u_24 4), .int 0, .int 0, .int 0, .int 0])), ((u_24 0), .inl (E 0, 9, .inl (fun _ => 0))), (q_27, .inr (4, [.ref (u_28 0), .ref (u_28 1), .ref (u_28 2), .int 0]))] H := hP
  have hD : va_D A [(h0, .inr (8, [.ref q_1, .ref q_2, .ref q_3, .ref q_4, .ref q_5, .ref q_6, .ref q_7, .ref q_11, .ref q_15, .ref q_19, .ref q_23, .ref q_27, .null, .int 0])), (q_1, .inl (E 0, 400, .inl (fun _ => 0))), (q_2, .inl (E 0, 16, .inl (fun _ => 0))), (q_3, .inl (E 0, 16, .inl (fun _ => 0))), (q_4, .inl (E 3, 16, .inr (.inr (.inr (.inr (fun _ => none)))))), (q_5, .inl (E 4, 5, .inr (.inr (.inr (.inr (fun _ => none)))))), (q_7, .inr (2, [.ref (u_8 0), .ref (u_8 1), .ref (u_8 2), .ref (u_8 3), .ref (u_8 4), .int 0])), ((u_8 0), .inl (E 0, 60, .inl (fun _ => 0))), ((u_8 1), .inl (E 0, 60, .inl (fun _ => 0))), ((u_8 2), .inl (E 0, 60, .inl (fun _ => 0))), ((u_8 3), .inl (E 0, 60, .inl (fun _ => 0))), ((u_8 4), .inl (E 0, 60, .inl (fun _ => 0))), (q_19, .inr (6, [.ref (u_20 0), .int 0, .ref (u_20 1), .ref (E 5), .int 0, .int 0, .int 0, .int 0])), ((u_20 0), .inl (E 0, 120, .inl (fun _ => 0))), ((u_20 1), .inr (4, [.ref (u_20 2), .ref (u_20 3), .ref (u_20 4), .int 0])), (q_23, .inr (0, [.ref (u_24 0), .ref (u_24 1), .ref (u_24 2), .ref (u_24 3), .ref (u_24 4), .int 0, .int 0, .int 0, .int 0])), ((u_24 0), .inl (E 0, 9, .inl (fun _ => 0))), (q_27, .inr (4, [.ref (u_28 0), .ref (u_28 1), .ref (u_28 2), .int 0]))] := hD
  have hP := hP.sub (ws' := [(h0, .inr (8, [.ref q_1, .ref q_2, .ref q_3, .ref q_4, .ref q_5, .ref q_6, .ref q_7, .ref q_11, .ref q_15, .ref q_19, .ref q_23, .ref q_27, .null, .int 0])), (q_1, .inl (E 0, 400, .inl (fun _ => 0))), (q_2, .inl (E 0, 16, .inl (fun _ => 0))), (q_3, .inl (E 0, 16, .inl (fun _ => 0))), (q_4, .inl (E 3, 16, .inr (.inr (.inr (.inr (fun _ => none)))))), (q_5, .inl (E 4, 5, .inr (.inr (.inr (.inr (fun _ => none)))))), (q_7, .inr (2, [.ref (u_8 0), .ref (u_8 1), .ref (u_8 2), .ref (u_8 3), .ref (u_8 4), .int 0])), ((u_8 0), .inl (E 0, 60, .inl (fun _ => 0))), ((u_8 1), .inl (E 0, 60, .inl (fun _ => 0))), ((u_8 2), .inl (E 0, 60, .inl (fun _ => 0))), ((u_8 3), .inl (E 0, 60, .inl (fun _ => 0))), ((u_8 4), .inl (E 0, 60, .inl (fun _ => 0))), (q_19, .inr (6, [.ref (u_20 0), .int 0, .ref (u_20 1), .ref (E 5), .int 0, .int 0, .int 0, .int 0])), ((u_20 0), .inl (E 0, 120, .inl (fun _ => 0))), ((u_20 1), .inr (4, [.ref (u_20 2), .ref (u_20 3), .ref (u_20 4), .int 0])), (q_23, .inr (0, [.ref (u_24 0), .ref (u_24 1), .ref (u_24 2), .ref (u_24 3), .ref (u_24 4), .int 0, .int 0, .int 0, .int 0])), ((u_24 0), .inl (E 0, 9, .inl (fun _ => 0)))]) [0, 1, 2, 3, 4, 5, 6, 7, 8, 9, 10, 11, 12, 13, 14, 15, 16] rfl
  have hD := hD.sub (ws' := [(h0, .inr (8, [.ref q_1, .ref q_2, .ref q_3, .ref q_4, .ref q_5, .ref q_6, .ref q_7, .ref q_11, .ref q_15, .ref q_19, .ref q_23, .ref q_27, .null, .int 0])), (q_1, .inl (E 0, 400, .inl (fun _ => 0))), (q_2, .inl (E 0, 16, .inl (fun _ => 0))), (q_3, .inl (E 0, 16, .inl (fun _ => 0))), (q_4, .inl (E 3, 16, .inr (.inr (.inr (.inr (fun _ => none)))))), (q_5, .inl (E 4, 5, .inr (.inr (.inr (.inr (fun _ => none)))))), (q_7, .inr (2, [.ref (u_8 0), .ref (u_8 1), .ref (u_8 2), .ref (u_8 3), .ref (u_8 4), .int 0])), ((u_8 0), .inl (E 0, 60, .inl (fun _ => 0))), ((u_8 1), .inl (E 0, 60, .inl (fun _ => 0))), ((u_8 2), .inl (E 0, 60, .inl (fun _ => 0))), ((u_8 3), .inl (E 0, 60, .inl (fun _ => 0))), ((u_8 4), .inl (E 0, 60, .inl (fun _ => 0))), (q_19, .inr (6, [.ref (u_20 0), .int 0, .ref (u_20 1), .ref (E 5), .int 0, .int 0, .int 0, .int 0])), ((u_20 0), .inl (E 0, 120, .inl (fun _ => 0))), ((u_20 1), .inr (4, [.ref (u_20 2), .ref (u_20 3), .ref (u_20 4), .int 0])), (q_23, .inr (0, [.ref (u_24 0), .ref (u_24 1), .ref (u_24 2), .ref (u_24 3), .ref (u_24 4), .int 0, .int 0, .int 0, .int 0])), ((u_24 0), .inl (E 0, 9, .inl (fun _ => 0)))]) [0, 1, 2, 3, 4, 5, 6, 7, 8, 9, 10, 11, 12, 13, 14, 15, 16] (by decide) rfl
  refine lv_aload_n hx hb dX8_init_120 rfl (lv_at hl 0 rfl) ?_
  refine va_new (ci := 4) (fs := [.null, .null, .null, .int 0]) (C := RX4) (T := TX4) (N := 4) hx hb htb iX4 tyX4 tyX4_ok hown (htb _ k_221) (htb _ k_136) (htb _ k_6) hK.1 hP hD hS hA rfl (by decide) (Nat.le_of_ble_eq_true rfl) (Nat.le_of_ble_eq_true rfl) dX8_init_121 (fun q_31 H hP hD hS => ?_)
  have hP : va_P D vwCl [(h0, .inr (8, [.ref q_1, .ref q_2, .ref q_3, .ref q_4, .ref q_5, .ref q_6, .ref q_7, .ref q_11, .ref q_15, .ref q_19, .ref q_23, .ref q_27, .null, .int 0])), (q_1, .inl (E 0, 400, .inl (fun _ => 0))), (q_2, .inl (E 0, 16, .inl (fun _ => 0))), (q_3, .inl (E 0, 16, .inl (fun _ => 0))), (q_4, .inl (E 3, 16, .inr (.inr (.inr (.inr (fun _ => none)))))), (q_5, .inl (E 4, 5, .inr (.inr (.inr (.inr (fun _ => none)))))), (q_7, .inr (2, [.ref (u_8 0), .ref (u_8 1), .ref (u_8 2), .ref (u_8 3), .ref (u_8 4), .int 0])), ((u_8 0), .inl (E 0, 60, .inl (fun _ => 0))), ((u_8 1), .inl (E 0, 60, .inl (fun _ => 0))), ((u_8 2), .inl (E 0, 60, .inl (fun _ => 0))), ((u_8 3), .inl (E 0, 60, .inl (fun _ => 0))), ((u_8 4), .inl (E 0, 60, .inl (fun _ => 0))), (q_19, .inr (6, [.ref (u_20 0), .int 0, .ref (u_20 1), .ref (E 5), .int 0, .int 0, .int 0, .int 0])), ((u_20 0), .inl (E 0, 120, .inl (fun _ => 0))), ((u_20 1), .inr (4, [.ref (u_20 2), .ref (u_20 3), .ref (u_20 4), .int 0])), (q_23, .inr (0, [.ref (u_24 0), .ref (u_24 1), .ref (u_24 2), .ref (u_24 3), .ref (u_24 4), .int 0, .int 0, .int 0, .int 0])), ((u_24 0), .inl (E 0, 9, .inl (fun _ => 0))), (q_31, .inr (4, [.null, .null, .null, .int 0]))] H := hP
  have hD : va_D A [(h0, .inr (8, [.ref q_1, .ref q_2, .ref q_3, .ref q_4, .ref q_5, .ref q_6, .ref q_7, .ref q_11, .ref q_15, .ref q_19, .ref q_23, .ref q_27, .null, .int 0])), (q_1, .inl (E 0, 400, .inl (fun _ => 0))), (q_2, .inl (E 0, 16, .inl (fun _ => 0))), (q_3, .inl (E 0, 16, .inl (fun _ => 0))), (q_4, .inl (E 3, 16, .inr (.inr (.inr (.inr (fun _ => none)))))), (q_5, .inl (E 4, 5, .inr (.inr (.inr (.inr (fun _ => none)))))), (q_7, .inr (2, [.ref (u_8 0), .ref (u_8 1), .ref (u_8 2), .ref (u_8 3), .ref (u_8 4), .int 0])), ((u_8 0), .inl (E 0, 60, .inl (fun _ => 0))), ((u_8 1), .inl (E 0, 60, .inl (fun _ => 0))), ((u_8 2), .inl (E 0, 60, .inl (fun _ => 0))), ((u_8 3), .inl (E 0, 60, .inl (fun _ => 0))), ((u_8 4), .inl (E 0, 60, .inl (fun _ => 0))), (q_19, .inr (6, [.ref (u_20 0), .int 0, .ref (u_20 1), .ref (E 5), .int 0, .int 0, .int 0, .int 0])), ((u_20 0), .inl (E 0, 120, .inl (fun _ => 0))), ((u_20 1), .inr (4, [.ref (u_20 2), .ref (u_20 3), .ref (u_20 4), .int 0])), (q_23, .inr (0, [.ref (u_24 0), .ref (u_24 1), .ref (u_24 2), .ref (u_24 3), .ref (u_24 4), .int 0, .int 0, .int 0, .int 0])), ((u_24 0), .inl (E 0, 9, .inl (fun _ => 0))), (q_31, .inr (4, [.null, .null, .null, .int 0]))] := hD
  refine W.widen (k := 34) (n := 1869) (Nat.le_of_ble_eq_true rfl) (Nat.le_of_ble_eq_true rfl) ?_
  refine lv_dup hx hb dX8_init_124 rfl ?_
  have hPc := hP.sub (ws' := [(q_31, .inr (4, [.null, .null, .null, .int 0]))]) [17] rfl
  have hDc := hD.sub (ws' := [(q_31, .inr (4, [.null, .null, .null, .int 0]))]) [17] (by decide) rfl
  refine aft_v (runMN (rest := [.ref q_31, .ref h0]) (As := []) hx hb hml hown htb hK (c_X4_init l D E q_31 _ ) ok_X4_init rfl (show Cond.methodLinkNest RX8 71 yX4_init RX8 ∈ nestW by decide +kernel) k_138 k_6 k_139 ⟨(Nat.le_of_ble_eq_true rfl), (Nat.le_of_ble_eq_true rfl)⟩ ⟨(Nat.le_of_ble_eq_true rfl), (Nat.le_of_ble_eq_true rfl)⟩ hl.1 (Nat.le_of_ble_eq_true rfl) rfl rfl dX8_init_125 hPc hDc) hP hD hS hA [17] [0, 1, 2, 3, 4, 5, 6, 7, 8, 9, 10, 11, 12, 13, 14, 15, 16] (wr := [(h0, .inr (8, [.ref q_1, .ref q_2, .ref q_3, .ref q_4, .ref q_5, .ref q_6, .ref q_7, .ref q_11, .ref q_15, .ref q_19, .ref q_23, .ref q_27, .null, .int 0])), (q_1, .inl (E 0, 400, .inl (fun _ => 0))), (q_2, .inl (E 0, 16, .inl (fun _ => 0))), (q_3, .inl (E 0, 16, .inl (fun _ => 0))), (q_4, .inl (E 3, 16, .inr (.inr (.inr (.inr (fun _ => none)))))), (q_5, .inl (E 4, 5, .inr (.inr (.inr (.inr (fun _ => none)))))), (q_7, .inr (2, [.ref (u_8 0), .ref (u_8 1), .ref (u_8 2), .ref (u_8 3), .ref (u_8 4), .int 0])), ((u_8 0), .inl (E 0, 60, .inl (fun _ => 0))), ((u_8 1), .inl (E 0, 60, .inl (fun _ => 0))), ((u_8 2), .inl (E 0, 60, .inl (fun _ => 0))), ((u_8 3), .inl (E 0, 60, .inl (fun _ => 0))), ((u_8 4), .inl (E 0, 60, .inl (fun _ => 0))), (q_19, .inr (6, [.ref (u_20 0), .int 0, .ref (u_20 1), .ref (E 5), .int 0, .int 0, .int 0, .int 0])), ((u_20 0), .inl (E 0, 120, .inl (fun _ => 0))), ((u_20 1), .inr (4, [.ref (u_20 2), .ref (u_20 3), .ref (u_20 4), .int 0])), (q_23, .inr (0, [.ref (u_24 0), .ref (u_24 1), .ref (u_24 2), .ref (u_24 3), .ref (u_24 4), .int 0, .int 0, .int 0, .int 0])), ((u_24 0), .inl (E 0, 9, .inl (fun _ => 0)))]) rfl rfl (by decide) (by decide) (fun u_32 H locs hw_33 hP hD hS => ?_)
  clear hPc hDc
  have hP : va_P D vwCl [(h0, .inr (8, [.ref q_1, .ref q_2, .ref q_3, .ref q_4, .ref q_5, .ref q_6, .ref q_7, .ref q_11, .ref q_15, .ref q_19, .ref q_23, .ref q_27, .null, .int 0])), (q_1, .inl (E 0, 400, .inl (fun _ => 0))), (q_2, .inl (E 0, 16, .inl (fun _ => 0))), (q_3, .inl (E 0, 16, .inl (fun _ => 0))), (q_4, .inl (E 3, 16, .inr (.inr (.inr (.inr (fun _ => none)))))), (q_5, .inl (E 4, 5, .inr (.inr (.inr (.inr (fun _ => none)))))), (q_7, .inr (2, [.ref (u_8 0), .ref (u_8 1), .ref (u_8 2), .ref (u_8 3), .ref (u_8 4), .int 0])), ((u_8 0), .inl (E 0, 60, .inl (fun _ => 0))), ((u_8 1), .inl (E 0, 60, .inl (fun _ => 0))), ((u_8 2), .inl (E 0, 60, .inl (fun _ => 0))), ((u_8 3), .inl (E 0, 60, .inl (fun _ => 0))), ((u_8 4), .inl (E 0, 60, .inl (fun _ => 0))), (q_19, .inr (6, [.ref (u_20 0), .int 0, .ref (u_20 1), .ref (E 5), .int 0, .int 0, .int 0, .int 0])), ((u_20 0), .inl (E 0, 120, .inl (fun _ => 0))), ((u_20 1), .inr (4, [.ref (u_20 2), .ref (u_20 3), .ref (u_20 4), .int 0])), (q_23, .inr (0, [.ref (u_24 0), .ref (u_24 1), .ref (u_24 2), .ref (u_24 3), .ref (u_24 4), .int 0, .int 0, .int 0, .int 0])), ((u_24 0), .inl (E 0, 9, .inl (fun _ => 0))), (q_31, .inr (4, [.ref (u_32 0), .ref (u_32 1), .ref (u_32 2), .int 0]))] H := hP
  have hD : va_D A [(h0, .inr (8, [.ref q_1, .ref q_2, .ref q_3, .ref q_4, .ref q_5, .ref q_6, .ref q_7, .ref q_11, .ref q_15, .ref q_19, .ref q_23, .ref q_27, .null, .int 0])), (q_1, .inl (E 0, 400, .inl (fun _ => 0))), (q_2, .inl (E 0, 16, .inl (fun _ => 0))), (q_3, .inl (E 0, 16, .inl (fun _ => 0))), (q_4, .inl (E 3, 16, .inr (.inr (.inr (.inr (fun _ => none)))))), (q_5, .inl (E 4, 5, .inr (.inr (.inr (.inr (fun _ => none)))))), (q_7, .inr (2, [.ref (u_8 0), .ref (u_8 1), .ref (u_8 2), .ref (u_8 3), .ref (u_8 4), .int 0])), ((u_8 0), .inl (E 0, 60, .inl (fun _ => 0))), ((u_8 1), .inl (E 0, 60, .inl (fun _ => 0))), ((u_8 2), .inl (E 0, 60, .inl (fun _ => 0))), ((u_8 3), .inl (E 0, 60, .inl (fun _ => 0))), ((u_8 4), .inl (E 0, 60, .inl (fun _ => 0))), (q_19, .inr (6, [.ref (u_20 0), .int 0, .ref (u_20 1), .ref (E 5), .int 0, .int 0, .int 0, .int 0])), ((u_20 0), .inl (E 0, 120, .inl (fun _ => 0))), ((u_20 1), .inr (4, [.ref (u_20 2), .ref (u_20 3), .ref (u_20 4), .int 0])), (q_23, .inr (0, [.ref (u_24 0), .ref (u_24 1), .ref (u_24 2), .ref (u_24 3), .ref (u_24 4), .int 0, .int 0, .int 0, .int 0])), ((u_24 0), .inl (E 0, 9, .inl (fun _ => 0))), (q_31, .inr (4, [.ref (u_32 0), .ref (u_32 1), .ref (u_32 2), .int 0]))] := hD
  refine W.widen (k := 37) (n := 2229) (Nat.le_of_ble_eq_true rfl) (Nat.le_of_ble_eq_true rfl) ?_
  refine va_put (D := D) (ci := 8) (v := .ref q_31) (ty := .object "SeaWatches$Rule") (C := RX8) (T := TX8) (N := 14) hx hb htb iX8 tyX8 tyX8_ok nmX8 hown hK.1 hP hD hS 0 rfl rfl 12 (by decide) (htb _ k_284) (fun _ h9 => h9) rfl (by decide +kernel) rfl rfl (Nat.le_of_ble_eq_true rfl) dX8_init_128 (fun H locs hP hD hS => ?_)
  have hP : va_P D vwCl [(h0, .inr (8, [.ref q_1, .ref q_2, .ref q_3, .ref q_4, .ref q_5, .ref q_6, .ref q_7, .ref q_11, .ref q_15, .ref q_19, .ref q_23, .ref q_27, .ref q_31, .int 0])), (q_1, .inl (E 0, 400, .inl (fun _ => 0))), (q_2, .inl (E 0, 16, .inl (fun _ => 0))), (q_3, .inl (E 0, 16, .inl (fun _ => 0))), (q_4, .inl (E 3, 16, .inr (.inr (.inr (.inr (fun _ => none)))))), (q_5, .inl (E 4, 5, .inr (.inr (.inr (.inr (fun _ => none)))))), (q_7, .inr (2, [.ref (u_8 0), .ref (u_8 1), .ref (u_8 2), .ref (u_8 3), .ref (u_8 4), .int 0])), ((u_8 0), .inl (E 0, 60, .inl (fun _ => 0))), ((u_8 1), .inl (E 0, 60, .inl (fun _ => 0))), ((u_8 2), .inl (E 0, 60, .inl (fun _ => 0))), ((u_8 3), .inl (E 0, 60, .inl (fun _ => 0))), ((u_8 4), .inl (E 0, 60, .inl (fun _ => 0))), (q_19, .inr (6, [.ref (u_20 0), .int 0, .ref (u_20 1), .ref (E 5), .int 0, .int 0, .int 0, .int 0])), ((u_20 0), .inl (E 0, 120, .inl (fun _ => 0))), ((u_20 1), .inr (4, [.ref (u_20 2), .ref (u_20 3), .ref (u_20 4), .int 0])), (q_23, .inr (0, [.ref (u_24 0), .ref (u_24 1), .ref (u_24 2), .ref (u_24 3), .ref (u_24 4), .int 0, .int 0, .int 0, .int 0])), ((u_24 0), .inl (E 0, 9, .inl (fun _ => 0))), (q_31, .inr (4, [.ref (u_32 0), .ref (u_32 1), .ref (u_32 2), .int 0]))] H := hP
  have hD : va_D A [(h0, .inr (8, [.ref q_1, .ref q_2, .ref q_3, .ref q_4, .ref q_5, .ref q_6, .ref q_7, .ref q_11, .ref q_15, .ref q_19, .ref q_23, .ref q_27, .ref q_31, .int 0])), (q_1, .inl (E 0, 400, .inl (fun _ => 0))), (q_2, .inl (E 0, 16, .inl (fun _ => 0))), (q_3, .inl (E 0, 16, .inl (fun _ => 0))), (q_4, .inl (E 3, 16, .inr (.inr (.inr (.inr (fun _ => none)))))), (q_5, .inl (E 4, 5, .inr (.inr (.inr (.inr (fun _ => none)))))), (q_7, .inr (2, [.ref (u_8 0), .ref (u_8 1), .ref (u_8 2), .ref (u_8 3), .ref (u_8 4), .int 0])), ((u_8 0), .inl (E 0, 60, .inl (fun _ => 0))), ((u_8 1), .inl (E 0, 60, .inl (fun _ => 0))), ((u_8 2), .inl (E 0, 60, .inl (fun _ => 0))), ((u_8 3), .inl (E 0, 60, .inl (fun _ => 0))), ((u_8 4), .inl (E 0, 60, .inl (fun _ => 0))), (q_19, .inr (6, [.ref (u_20 0), .int 0, .ref (u_20 1), .ref (E 5), .int 0, .int 0, .int 0, .int 0])), ((u_20 0), .inl (E 0, 120, .inl (fun _ => 0))), ((u_20 1), .inr (4, [.ref (u_20 2), .ref (u_20 3), .ref (u_20 4), .int 0])), (q_23, .inr (0, [.ref (u_24 0), .ref (u_24 1), .ref (u_24 2), .ref (u_24 3), .ref (u_24 4), .int 0, .int 0, .int 0, .int 0])), ((u_24 0), .inl (E 0, 9, .inl (fun _ => 0))), (q_31, .inr (4, [.ref (u_32 0), .ref (u_32 1), .ref (u_32 2), .int 0]))] := hD
  have hP := hP.sub (ws' := [(h0, .inr (8, [.ref q_1, .ref q_2, .ref q_3, .ref q_4, .ref q_5, .ref q_6, .ref q_7, .ref q_11, .ref q_15, .ref q_19, .ref q_23, .ref q_27, .ref q_31, .int 0])), (q_1, .inl (E 0, 400, .inl (fun _ => 0))), (q_2, .inl (E 0, 16, .inl (fun _ => 0))), (q_3, .inl (E 0, 16, .inl (fun _ => 0))), (q_4, .inl (E 3, 16, .inr (.inr (.inr (.inr (fun _ => none)))))), (q_5, .inl (E 4, 5, .inr (.inr (.inr (.inr (fun _ => none)))))), (q_7, .inr (2, [.ref (u_8 0), .ref (u_8 1), .ref (u_8 2), .ref (u_8 3), .ref (u_8 4), .int 0])), ((u_8 0), .inl (E 0, 60, .inl (fun _ => 0))), ((u_8 1), .inl (E 0, 60, .inl (fun _ => 0))), ((u_8 2), .inl (E 0, 60, .inl (fun _ => 0))), ((u_8 3), .inl (E 0, 60, .inl (fun _ => 0))), ((u_8 4), .inl (E 0, 60, .inl (fun _ => 0))), (q_19, .inr (6, [.ref (u_20 0), .int 0, .ref (u_20 1), .ref (E 5), .int 0, .int 0, .int 0, .int 0])), ((u_20 0), .inl (E 0, 120, .inl (fun _ => 0))), ((u_20 1), .inr (4, [.ref (u_20 2), .ref (u_20 3), .ref (u_20 4), .int 0])), (q_23, .inr (0, [.ref (u_24 0), .ref (u_24 1), .ref (u_24 2), .ref (u_24 3), .ref (u_24 4), .int 0, .int 0, .int 0, .int 0])), ((u_24 0), .inl (E 0, 9, .inl (fun _ => 0)))]) [0, 1, 2, 3, 4, 5, 6, 7, 8, 9, 10, 11, 12, 13, 14, 15, 16] rfl
  have hD := hD.sub (ws' := [(h0, .inr (8, [.ref q_1, .ref q_2, .ref q_3, .ref q_4, .ref q_5, .ref q_6, .ref q_7, .ref q_11, .ref q_15, .ref q_19, .ref q_23, .ref q_27, .ref q_31, .int 0])), (q_1, .inl (E 0, 400, .inl (fun _ => 0))), (q_2, .inl (E 0, 16, .inl (fun _ => 0))), (q_3, .inl (E 0, 16, .inl (fun _ => 0))), (q_4, .inl (E 3, 16, .inr (.inr (.inr (.inr (fun _ => none)))))), (q_5, .inl (E 4, 5, .inr (.inr (.inr (.inr (fun _ => none)))))), (q_7, .inr (2, [.ref (u_8 0), .ref (u_8 1), .ref (u_8 2), .ref (u_8 3), .ref (u_8 4), .int 0])), ((u_8 0), .inl (E 0, 60, .inl (fun _ => 0))), ((u_8 1), .inl (E 0, 60, .inl (fun _ => 0))), ((u_8 2), .inl (E 0, 60, .inl (fun _ => 0))), ((u_8 3), .inl (E 0, 60, .inl (fun _ => 0))), ((u_8 4), .inl (E 0, 60, .inl (fun _ => 0))), (q_19, .inr (6, [.ref (u_20 0), .int 0, .ref (u_20 1), .ref (E 5), .int 0, .int 0, .int 0, .int 0])), ((u_20 0), .inl (E 0, 120, .inl (fun _ => 0))), ((u_20 1), .inr (4, [.ref (u_20 2), .ref (u_20 3), .ref (u_20 4), .int 0])), (q_23, .inr (0, [.ref (u_24 0), .ref (u_24 1), .ref (u_24 2), .ref (u_24 3), .ref (u_24 4), .int 0, .int 0, .int 0, .int 0])), ((u_24 0), .inl (E 0, 9, .inl (fun _ => 0)))]) [0, 1, 2, 3, 4, 5, 6, 7, 8, 9, 10, 11, 12, 13, 14, 15, 16] (by decide) rfl
  refine lv_aload_n hx hb dX8_init_131 rfl (lv_at hl 0 rfl) ?_
  refine lv_iconst (v := 0) hx hb dX8_init_132 (by decide) ?_
  refine va_put (D := D) (ci := 8) (v := .int 0) (ty := .int) (C := RX8) (T := TX8) (N := 14) hx hb htb iX8 tyX8 tyX8_ok nmX8 hown hK.1 hP hD hS 0 rfl rfl 13 (by decide) (htb _ k_285) (fun _ h9 => h9) rfl (by decide +kernel) rfl rfl (Nat.le_of_ble_eq_true rfl) dX8_init_133 (fun H locs hP hD hS => ?_)
  have hP : va_P D vwCl [(h0, .inr (8, [.ref q_1, .ref q_2, .ref q_3, .ref q_4, .ref q_5, .ref q_6, .ref q_7, .ref q_11, .ref q_15, .ref q_19, .ref q_23, .ref q_27, .ref q_31, .int 0])), (q_1, .inl (E 0, 400, .inl (fun _ => 0))), (q_2, .inl (E 0, 16, .inl (fun _ => 0))), (q_3, .inl (E 0, 16, .inl (fun _ => 0))), (q_4, .inl (E 3, 16, .inr (.inr (.inr (.inr (fun _ => none)))))), (q_5, .inl (E 4, 5, .inr (.inr (.inr (.inr (fun _ => none)))))), (q_7, .inr (2, [.ref (u_8 0), .ref (u_8 1), .ref (u_8 2), .ref (u_8 3), .ref (u_8 4), .int 0])), ((u_8 0), .inl (E 0, 60, .inl (fun _ => 0))), ((u_8 1), .inl (E 0, 60, .inl (fun _ => 0))), ((u_8 2), .inl (E 0, 60, .inl (fun _ => 0))), ((u_8 3), .inl (E 0, 60, .inl (fun _ => 0))), ((u_8 4), .inl (E 0, 60, .inl (fun _ => 0))), (q_19, .inr (6, [.ref (u_20 0), .int 0, .ref (u_20 1), .ref (E 5), .int 0, .int 0, .int 0, .int 0])), ((u_20 0), .inl (E 0, 120, .inl (fun _ => 0))), ((u_20 1), .inr (4, [.ref (u_20 2), .ref (u_20 3), .ref (u_20 4), .int 0])), (q_23, .inr (0, [.ref (u_24 0), .ref (u_24 1), .ref (u_24 2), .ref (u_24 3), .ref (u_24 4), .int 0, .int 0, .int 0, .int 0])), ((u_24 0), .inl (E 0, 9, .inl (fun _ => 0)))] H := hP
  have hD : va_D A [(h0, .inr (8, [.ref q_1, .ref q_2, .ref q_3, .ref q_4, .ref q_5, .ref q_6, .ref q_7, .ref q_11, .ref q_15, .ref q_19, .ref q_23, .ref q_27, .ref q_31, .int 0])), (q_1, .inl (E 0, 400, .inl (fun _ => 0))), (q_2, .inl (E 0, 16, .inl (fun _ => 0))), (q_3, .inl (E 0, 16, .inl (fun _ => 0))), (q_4, .inl (E 3, 16, .inr (.inr (.inr (.inr (fun _ => none)))))), (q_5, .inl (E 4, 5, .inr (.inr (.inr (.inr (fun _ => none)))))), (q_7, .inr (2, [.ref (u_8 0), .ref (u_8 1), .ref (u_8 2), .ref (u_8 3), .ref (u_8 4), .int 0])), ((u_8 0), .inl (E 0, 60, .inl (fun _ => 0))), ((u_8 1), .inl (E 0, 60, .inl (fun _ => 0))), ((u_8 2), .inl (E 0, 60, .inl (fun _ => 0))), ((u_8 3), .inl (E 0, 60, .inl (fun _ => 0))), ((u_8 4), .inl (E 0, 60, .inl (fun _ => 0))), (q_19, .inr (6, [.ref (u_20 0), .int 0, .ref (u_20 1), .ref (E 5), .int 0, .int 0, .int 0, .int 0])), ((u_20 0), .inl (E 0, 120, .inl (fun _ => 0))), ((u_20 1), .inr (4, [.ref (u_20 2), .ref (u_20 3), .ref (u_20 4), .int 0])), (q_23, .inr (0, [.ref (u_24 0), .ref (u_24 1), .ref (u_24 2), .ref (u_24 3), .ref (u_24 4), .int 0, .int 0, .int 0, .int 0])), ((u_24 0), .inl (E 0, 9, .inl (fun _ => 0)))] := hD
  refine lv_iconst (v := 0) hx hb dX8_init_136 (by decide) ?_
  refine lv_istore_n (lv' := [(1, .int 0), (0, .ref h0)]) hx hb dX8_init_137 rfl hl (by decide) rfl (fun ls hl => ?_)
  have loop_37 : ∀ (N_36 : Nat) (ix : Int32) (gf138_0 : Nat → Int32) (H : Heap) (locs : List Loc) (ls : Array Slot), 400 - ix.toInt < (N_36 : Int) → (0 ≤ ix.toInt) → (ix.toInt ≤ 400) → va_P D vwCl [(h0, .inr (8, [.ref q_1, .ref q_2, .ref q_3, .ref q_4, .ref q_5, .ref q_6, .ref q_7, .ref q_11, .ref q_15, .ref q_19, .ref q_23, .ref q_27, .ref q_31, .int 0])), (q_1, .inl (E 0, 400, .inl gf138_0)), (q_2, .inl (E 0, 16, .inl (fun _ => 0))), (q_3, .inl (E 0, 16, .inl (fun _ => 0))), (q_4, .inl (E 3, 16, .inr (.inr (.inr (.inr (fun _ => none)))))), (q_5, .inl (E 4, 5, .inr (.inr (.inr (.inr (fun _ => none)))))), (q_7, .inr (2, [.ref (u_8 0), .ref (u_8 1), .ref (u_8 2), .ref (u_8 3), .ref (u_8 4), .int 0])), ((u_8 0), .inl (E 0, 60, .inl (fun _ => 0))), ((u_8 1), .inl (E 0, 60, .inl (fun _ => 0))), ((u_8 2), .inl (E 0, 60, .inl (fun _ => 0))), ((u_8 3), .inl (E 0, 60, .inl (fun _ => 0))), ((u_8 4), .inl (E 0, 60, .inl (fun _ => 0))), (q_19, .inr (6, [.ref (u_20 0), .int 0, .ref (u_20 1), .ref (E 5), .int 0, .int 0, .int 0, .int 0])), ((u_20 0), .inl (E 0, 120, .inl (fun _ => 0))), ((u_20 1), .inr (4, [.ref (u_20 2), .ref (u_20 3), .ref (u_20 4), .int 0])), (q_23, .inr (0, [.ref (u_24 0), .ref (u_24 1), .ref (u_24 2), .ref (u_24 3), .ref (u_24 4), .int 0, .int 0, .int 0, .int 0])), ((u_24 0), .inl (E 0, 9, .inl (fun _ => 0)))] H → va_D A [(h0, .inr (8, [.ref q_1, .ref q_2, .ref q_3, .ref q_4, .ref q_5, .ref q_6, .ref q_7, .ref q_11, .ref q_15, .ref q_19, .ref q_23, .ref q_27, .ref q_31, .int 0])), (q_1, .inl (E 0, 400, .inl gf138_0)), (q_2, .inl (E 0, 16, .inl (fun _ => 0))), (q_3, .inl (E 0, 16, .inl (fun _ => 0))), (q_4, .inl (E 3, 16, .inr (.inr (.inr (.inr (fun _ => none)))))), (q_5, .inl (E 4, 5, .inr (.inr (.inr (.inr (fun _ => none)))))), (q_7, .inr (2, [.ref (u_8 0), .ref (u_8 1), .ref (u_8 2), .ref (u_8 3), .ref (u_8 4), .int 0])), ((u_8 0), .inl (E 0, 60, .inl (fun _ => 0))), ((u_8 1), .inl (E 0, 60, .inl (fun _ => 0))), ((u_8 2), .inl (E 0, 60, .inl (fun _ => 0))), ((u_8 3), .inl (E 0, 60, .inl (fun _ => 0))), ((u_8 4), .inl (E 0, 60, .inl (fun _ => 0))), (q_19, .inr (6, [.ref (u_20 0), .int 0, .ref (u_20 1), .ref (E 5), .int 0, .int 0, .int 0, .int 0])), ((u_20 0), .inl (E 0, 120, .inl (fun _ => 0))), ((u_20 1), .inr (4, [.ref (u_20 2), .ref (u_20 3), .ref (u_20 4), .int 0])), (q_23, .inr (0, [.ref (u_24 0), .ref (u_24 1), .ref (u_24 2), .ref (u_24 3), .ref (u_24 4), .int 0, .int 0, .int 0, .int 0])), ((u_24 0), .inl (E 0, 9, .inl (fun _ => 0)))] → va_S A s.heap H locs → lv_has ls 2 [(1, .int ix), (0, .ref h0)] → W p l e (headSpec (wl yX8_init cX8_init 2 none) (RM 3 77 3159)).room s m [Value.ref h0].toArray below meth c H locs 37 2229 (MQ below (va_Qv (fun (u : (Nat → Nat) × (Nat → Nat → Nat) × (Nat → Int32)) => True) (mu_B D A (fun (u : (Nat → Nat) × (Nat → Nat → Nat) × (Nat → Int32)) => [(h0, .inr (8, xF u.1 0)), ((u.1 0), .inl (E 0, 400, .inl u.2.2)), ((u.1 1), .inl (E 0, 16, .inl (fun _ => -5))), ((u.1 2), .inl (E 0, 16, .inl (fun _ => 0))), ((u.1 3), .inl (E 3, 16, .inr (.inr (.inr (.inr (fun _ => none)))))), ((u.1 4), .inl (E 4, 5, .inr (.inr (.inr (.inr (fun j => some (u.1 (13 + j)))))))), ((u.1 13), .inr (5, sF (u.2.1 0))), ((u.1 14), .inr (5, sF (u.2.1 1))), ((u.1 15), .inr (5, sF (u.2.1 2))), ((u.1 16), .inr (5, sF (u.2.1 3))), ((u.1 17), .inr (5, sF (u.2.1 4))), ((u.1 6), .inr (2, [.ref (u.1 18), .ref (u.1 19), .ref (u.1 20), .ref (u.1 21), .ref (u.1 22), .int 0])), ((u.1 18), .inl (E 0, 60, .inl (fun _ => 0))), ((u.1 19), .inl (E 0, 60, .inl (fun _ => 0))), ((u.1 20), .inl (E 0, 60, .inl (fun _ => 0))), ((u.1 21), .inl (E 0, 60, .inl (fun _ => 0))), ((u.1 22), .inl (E 0, 60, .inl (fun _ => 0))), ((u.1 9), .inr (6, [.ref (u.1 23), .int 0, .ref (u.1 24), .ref (E 5), .int 0, .int 0, .int 0, .int 0])), ((u.1 23), .inl (E 0, 120, .inl (fun _ => 0))), ((u.1 24), .inr (4, [.ref (u.1 25), .ref (u.1 26), .ref (u.1 27), .int 0])), ((u.1 10), .inr (0, [.ref (u.1 28), .ref (u.1 29), .ref (u.1 30), .ref (u.1 31), .ref (u.1 32), .int 0, .int 0, .int 0, .int 0])), ((u.1 28), .inl (E 0, 9, .inl (fun _ => 0)))])) A) [Value.ref h0].toArray s 77 3159 A) (F0 m 138 ls []) := by
    intro N_36
    induction N_36 with
    | zero => intro ix gf138_0 H locs ls hm v0_loop_37 v1_loop_37 _ _ _ _; exfalso; omega
    | succ N_36 ih_35 =>
      intro ix gf138_0 H locs ls hm v0_loop_37 v1_loop_37 hP hD hS hl
      refine lv_iload_n hx hb dX8_init_138 rfl (lv_at hl 0 rfl) ?_
      refine lv_sipush (v := 400) hx hb dX8_init_139 (by decide) ?_
      refine lv_icmp_ge (tgt := 159) hx hb dX8_init_142 (by decide) (fun c_38 => ?_) (fun c_38 => ?_)
      ·
        have ic_38 : 400 ≤ ix.toInt := by first | exact (g_le t_400 rfl).mp c_38 | (have h := mt (g_lt rfl t_400).mpr c_38; omega)
        refine lv_iconst (v := 0) hx hb dX8_init_159 (by decide) ?_
        refine lv_istore_n (lv' := [(1, .int 0), (0, .ref h0)]) hx hb dX8_init_160 rfl hl (by decide) rfl (fun ls hl => ?_)
        have loop_41 : ∀ (N_40 : Nat) (iy : Int32) (gf161_0 : Nat → Int32) (H : Heap) (locs : List Loc) (ls : Array Slot), 16 - iy.toInt < (N_40 : Int) → (0 ≤ iy.toInt) → (iy.toInt ≤ 16) → (∀ k : Nat, (k : Int) < iy.toInt → gf161_0 k = -5) → va_P D vwCl [(h0, .inr (8, [.ref q_1, .ref q_2, .ref q_3, .ref q_4, .ref q_5, .ref q_6, .ref q_7, .ref q_11, .ref q_15, .ref q_19, .ref q_23, .ref q_27, .ref q_31, .int 0])), (q_1, .inl (E 0, 400, .inl gf138_0)), (q_2, .inl (E 0, 16, .inl gf161_0)), (q_3, .inl (E 0, 16, .inl (fun _ => 0))), (q_4, .inl (E 3, 16, .inr (.inr (.inr (.inr (fun _ => none)))))), (q_5, .inl (E 4, 5, .inr (.inr (.inr (.inr (fun _ => none)))))), (q_7, .inr (2, [.ref (u_8 0), .ref (u_8 1), .ref (u_8 2), .ref (u_8 3), .ref (u_8 4), .int 0])), ((u_8 0), .inl (E 0, 60, .inl (fun _ => 0))), ((u_8 1), .inl (E 0, 60, .inl (fun _ => 0))), ((u_8 2), .inl (E 0, 60, .inl (fun _ => 0))), ((u_8 3), .inl (E 0, 60, .inl (fun _ => 0))), ((u_8 4), .inl (E 0, 60, .inl (fun _ => 0))), (q_19, .inr (6, [.ref (u_20 0), .int 0, .ref (u_20 1), .ref (E 5), .int 0, .int 0, .int 0, .int 0])), ((u_20 0), .inl (E 0, 120, .inl (fun _ => 0))), ((u_20 1), .inr (4, [.ref (u_20 2), .ref (u_20 3), .ref (u_20 4), .int 0])), (q_23, .inr (0, [.ref (u_24 0), .ref (u_24 1), .ref (u_24 2), .ref (u_24 3), .ref (u_24 4), .int 0, .int 0, .int 0, .int 0])), ((u_24 0), .inl (E 0, 9, .inl (fun _ => 0)))] H → va_D A [(h0, .inr (8, [.ref q_1, .ref q_2, .ref q_3, .ref q_4, .ref q_5, .ref q_6, .ref q_7, .ref q_11, .ref q_15, .ref q_19, .ref q_23, .ref q_27, .ref q_31, .int 0])), (q_1, .inl (E 0, 400, .inl gf138_0)), (q_2, .inl (E 0, 16, .inl gf161_0)), (q_3, .inl (E 0, 16, .inl (fun _ => 0))), (q_4, .inl (E 3, 16, .inr (.inr (.inr (.inr (fun _ => none)))))), (q_5, .inl (E 4, 5, .inr (.inr (.inr (.inr (fun _ => none)))))), (q_7, .inr (2, [.ref (u_8 0), .ref (u_8 1), .ref (u_8 2), .ref (u_8 3), .ref (u_8 4), .int 0])), ((u_8 0), .inl (E 0, 60, .inl (fun _ => 0))), ((u_8 1), .inl (E 0, 60, .inl (fun _ => 0))), ((u_8 2), .inl (E 0, 60, .inl (fun _ => 0))), ((u_8 3), .inl (E 0, 60, .inl (fun _ => 0))), ((u_8 4), .inl (E 0, 60, .inl (fun _ => 0))), (q_19, .inr (6, [.ref (u_20 0), .int 0, .ref (u_20 1), .ref (E 5), .int 0, .int 0, .int 0, .int 0])), ((u_20 0), .inl (E 0, 120, .inl (fun _ => 0))), ((u_20 1), .inr (4, [.ref (u_20 2), .ref (u_20 3), .ref (u_20 4), .int 0])), (q_23, .inr (0, [.ref (u_24 0), .ref (u_24 1), .ref (u_24 2), .ref (u_24 3), .ref (u_24 4), .int 0, .int 0, .int 0, .int 0])), ((u_24 0), .inl (E 0, 9, .inl (fun _ => 0)))] → va_S A s.heap H locs → lv_has ls 2 [(1, .int iy), (0, .ref h0)] → W p l e (headSpec (wl yX8_init cX8_init 2 none) (RM 3 77 3159)).room s m [Value.ref h0].toArray below meth c H locs 37 2229 (MQ below (va_Qv (fun (u : (Nat → Nat) × (Nat → Nat → Nat) × (Nat → Int32)) => True) (mu_B D A (fun (u : (Nat → Nat) × (Nat → Nat → Nat) × (Nat → Int32)) => [(h0, .inr (8, xF u.1 0)), ((u.1 0), .inl (E 0, 400, .inl u.2.2)), ((u.1 1), .inl (E 0, 16, .inl (fun _ => -5))), ((u.1 2), .inl (E 0, 16, .inl (fun _ => 0))), ((u.1 3), .inl (E 3, 16, .inr (.inr (.inr (.inr (fun _ => none)))))), ((u.1 4), .inl (E 4, 5, .inr (.inr (.inr (.inr (fun j => some (u.1 (13 + j)))))))), ((u.1 13), .inr (5, sF (u.2.1 0))), ((u.1 14), .inr (5, sF (u.2.1 1))), ((u.1 15), .inr (5, sF (u.2.1 2))), ((u.1 16), .inr (5, sF (u.2.1 3))), ((u.1 17), .inr (5, sF (u.2.1 4))), ((u.1 6), .inr (2, [.ref (u.1 18), .ref (u.1 19), .ref (u.1 20), .ref (u.1 21), .ref (u.1 22), .int 0])), ((u.1 18), .inl (E 0, 60, .inl (fun _ => 0))), ((u.1 19), .inl (E 0, 60, .inl (fun _ => 0))), ((u.1 20), .inl (E 0, 60, .inl (fun _ => 0))), ((u.1 21), .inl (E 0, 60, .inl (fun _ => 0))), ((u.1 22), .inl (E 0, 60, .inl (fun _ => 0))), ((u.1 9), .inr (6, [.ref (u.1 23), .int 0, .ref (u.1 24), .ref (E 5), .int 0, .int 0, .int 0, .int 0])), ((u.1 23), .inl (E 0, 120, .inl (fun _ => 0))), ((u.1 24), .inr (4, [.ref (u.1 25), .ref (u.1 26), .ref (u.1 27), .int 0])), ((u.1 10), .inr (0, [.ref (u.1 28), .ref (u.1 29), .ref (u.1 30), .ref (u.1 31), .ref (u.1 32), .int 0, .int 0, .int 0, .int 0])), ((u.1 28), .inl (E 0, 9, .inl (fun _ => 0)))])) A) [Value.ref h0].toArray s 77 3159 A) (F0 m 161 ls []) := by
          intro N_40
          induction N_40 with
          | zero => intro iy gf161_0 H locs ls hm v0_loop_41 v1_loop_41 v2_loop_41 _ _ _ _; exfalso; omega
          | succ N_40 ih_39 =>
            intro iy gf161_0 H locs ls hm v0_loop_41 v1_loop_41 v2_loop_41 hP hD hS hl
            refine lv_iload_n hx hb dX8_init_161 rfl (lv_at hl 0 rfl) ?_
            refine lv_bipush (v := 16) hx hb dX8_init_162 (by decide) ?_
            refine lv_icmp_ge (tgt := 181) hx hb dX8_init_164 (by decide) (fun c_42 => ?_) (fun c_42 => ?_)
            ·
              have ic_42 : 16 ≤ iy.toInt := by first | exact (g_le t_16 rfl).mp c_42 | (have h := mt (g_lt rfl t_16).mpr c_42; omega)
              refine lv_iconst (v := 0) hx hb dX8_init_181 (by decide) ?_
              refine lv_istore_n (lv' := [(1, .int 0), (0, .ref h0)]) hx hb dX8_init_182 rfl hl (by decide) rfl (fun ls hl => ?_)
              refine lv_iload_n hx hb dX8_init_183 rfl (lv_at hl 0 rfl) ?_
              refine lv_iconst (v := 5) hx hb dX8_init_184 (by decide) ?_
              refine lv_icmp_ge (tgt := 207) hx hb dX8_init_185 (by decide) (fun c_43 => absurd c_43 (by decide)) (fun c_43 => ?_)
              refine lv_aload_n hx hb dX8_init_188 rfl (lv_at hl 1 rfl) ?_
              refine va_get (D := D) (ci := 8) (v := .ref q_5) (C := RX8) (T := TX8) (N := 14) hx hb htb iX8 hown hK.1 hP 0 rfl rfl 4 (by decide) (htb _ k_276) (fun _ h9 => h9) rfl dX8_init_189 ?_
              refine lv_iload_n hx hb dX8_init_192 rfl (lv_at hl 0 rfl) ?_
              refine va_new (ci := 5) (fs := [.null, .null, .null, .null, .null, .null, .null, .int 0, .int 0, .int 0, .int 0]) (C := RX5) (T := TX5) (N := 11) hx hb htb iX5 tyX5 tyX5_ok hown (htb _ k_26) (htb _ k_223) (htb _ k_8) hK.1 hP hD hS hA rfl (by decide) (Nat.le_of_ble_eq_true rfl) (Nat.le_of_ble_eq_true rfl) dX8_init_193 (fun q_44 H hP hD hS => ?_)
              have hP : va_P D vwCl [(h0, .inr (8, [.ref q_1, .ref q_2, .ref q_3, .ref q_4, .ref q_5, .ref q_6, .ref q_7, .ref q_11, .ref q_15, .ref q_19, .ref q_23, .ref q_27, .ref q_31, .int 0])), (q_1, .inl (E 0, 400, .inl gf138_0)), (q_2, .inl (E 0, 16, .inl gf161_0)), (q_3, .inl (E 0, 16, .inl (fun _ => 0))), (q_4, .inl (E 3, 16, .inr (.inr (.inr (.inr (fun _ => none)))))), (q_5, .inl (E 4, 5, .inr (.inr (.inr (.inr (fun _ => none)))))), (q_7, .inr (2, [.ref (u_8 0), .ref (u_8 1), .ref (u_8 2), .ref (u_8 3), .ref (u_8 4), .int 0])), ((u_8 0), .inl (E 0, 60, .inl (fun _ => 0))), ((u_8 1), .inl (E 0, 60, .inl (fun _ => 0))), ((u_8 2), .inl (E 0, 60, .inl (fun _ => 0))), ((u_8 3), .inl (E 0, 60, .inl (fun _ => 0))), ((u_8 4), .inl (E 0, 60, .inl (fun _ => 0))), (q_19, .inr (6, [.ref (u_20 0), .int 0, .ref (u_20 1), .ref (E 5), .int 0, .int 0, .int 0, .int 0])), ((u_20 0), .inl (E 0, 120, .inl (fun _ => 0))), ((u_20 1), .inr (4, [.ref (u_20 2), .ref (u_20 3), .ref (u_20 4), .int 0])), (q_23, .inr (0, [.ref (u_24 0), .ref (u_24 1), .ref (u_24 2), .ref (u_24 3), .ref (u_24 4), .int 0, .int 0, .int 0, .int 0])), ((u_24 0), .inl (E 0, 9, .inl (fun _ => 0))), (q_44, .inr (5, [.null, .null, .null, .null, .null, .null, .null, .int 0, .int 0, .int 0, .int 0]))] H := hP
              have hD : va_D A [(h0, .inr (8, [.ref q_1, .ref q_2, .ref q_3, .ref q_4, .ref q_5, .ref q_6, .ref q_7, .ref q_11, .ref q_15, .ref q_19, .ref q_23, .ref q_27, .ref q_31, .int 0])), (q_1, .inl (E 0, 400, .inl gf138_0)), (q_2, .inl (E 0, 16, .inl gf161_0)), (q_3, .inl (E 0, 16, .inl (fun _ => 0))), (q_4, .inl (E 3, 16, .inr (.inr (.inr (.inr (fun _ => none)))))), (q_5, .inl (E 4, 5, .inr (.inr (.inr (.inr (fun _ => none)))))), (q_7, .inr (2, [.ref (u_8 0), .ref (u_8 1), .ref (u_8 2), .ref (u_8 3), .ref (u_8 4), .int 0])), ((u_8 0), .inl (E 0, 60, .inl (fun _ => 0))), ((u_8 1), .inl (E 0, 60, .inl (fun _ => 0))), ((u_8 2), .inl (E 0, 60, .inl (fun _ => 0))), ((u_8 3), .inl (E 0, 60, .inl (fun _ => 0))), ((u_8 4), .inl (E 0, 60, .inl (fun _ => 0))), (q_19, .inr (6, [.ref (u_20 0), .int 0, .ref (u_20 1), .ref (E 5), .int 0, .int 0, .int 0, .int 0])), ((u_20 0), .inl (E 0, 120, .inl (fun _ => 0))), ((u_20 1), .inr (4, [.ref (u_20 2), .ref (u_20 3), .ref (u_20 4), .int 0])), (q_23, .inr (0, [.ref (u_24 0), .ref (u_24 1), .ref (u_24 2), .ref (u_24 3), .ref (u_24 4), .int 0, .int 0, .int 0, .int 0])), ((u_24 0), .inl (E 0, 9, .inl (fun _ => 0))), (q_44, .inr (5, [.null, .null, .null, .null, .null, .null, .null, .int 0, .int 0, .int 0, .int 0]))] := hD
              refine W.widen (k := 38) (n := 2240) (Nat.le_of_ble_eq_true rfl) (Nat.le_of_ble_eq_true rfl) ?_
              refine lv_dup hx hb dX8_init_196 rfl ?_
              have hPc := hP.sub (ws' := [(q_44, .inr (5, [.null, .null, .null, .null, .null, .null, .null, .int 0, .int 0, .int 0, .int 0]))]) [17] rfl
              have hDc := hD.sub (ws' := [(q_44, .inr (5, [.null, .null, .null, .null, .null, .null, .null, .int 0, .int 0, .int 0, .int 0]))]) [17] (by decide) rfl
              refine aft_v (runMN (rest := [.ref q_44, .int 0, .ref q_5]) (As := []) hx hb hml hown htb hK (c_X5_init l D E q_44 _ ) ok_X5_init rfl (show Cond.methodLinkNest RX8 83 yX5_init RX8 ∈ nestW by decide +kernel) k_225 k_8 k_226 ⟨(Nat.le_of_ble_eq_true rfl), (Nat.le_of_ble_eq_true rfl)⟩ ⟨(Nat.le_of_ble_eq_true rfl), (Nat.le_of_ble_eq_true rfl)⟩ hl.1 (Nat.le_of_ble_eq_true rfl) rfl rfl dX8_init_197 hPc hDc) hP hD hS hA [17] [0, 1, 2, 3, 4, 5, 6, 7, 8, 9, 10, 11, 12, 13, 14, 15, 16] (wr := [(h0, .inr (8, [.ref q_1, .ref q_2, .ref q_3, .ref q_4, .ref q_5, .ref q_6, .ref q_7, .ref q_11, .ref q_15, .ref q_19, .ref q_23, .ref q_27, .ref q_31, .int 0])), (q_1, .inl (E 0, 400, .inl gf138_0)), (q_2, .inl (E 0, 16, .inl gf161_0)), (q_3, .inl (E 0, 16, .inl (fun _ => 0))), (q_4, .inl (E 3, 16, .inr (.inr (.inr (.inr (fun _ => none)))))), (q_5, .inl (E 4, 5, .inr (.inr (.inr (.inr (fun _ => none)))))), (q_7, .inr (2, [.ref (u_8 0), .ref (u_8 1), .ref (u_8 2), .ref (u_8 3), .ref (u_8 4), .int 0])), ((u_8 0), .inl (E 0, 60, .inl (fun _ => 0))), ((u_8 1), .inl (E 0, 60, .inl (fun _ => 0))), ((u_8 2), .inl (E 0, 60, .inl (fun _ => 0))), ((u_8 3), .inl (E 0, 60, .inl (fun _ => 0))), ((u_8 4), .inl (E 0, 60, .inl (fun _ => 0))), (q_19, .inr (6, [.ref (u_20 0), .int 0, .ref (u_20 1), .ref (E 5), .int 0, .int 0, .int 0, .int 0])), ((u_20 0), .inl (E 0, 120, .inl (fun _ => 0))), ((u_20 1), .inr (4, [.ref (u_20 2), .ref (u_20 3), .ref (u_20 4), .int 0])), (q_23, .inr (0, [.ref (u_24 0), .ref (u_24 1), .ref (u_24 2), .ref (u_24 3), .ref (u_24 4), .int 0, .int 0, .int 0, .int 0])), ((u_24 0), .inl (E 0, 9, .inl (fun _ => 0)))]) rfl rfl (by decide) (by decide) (fun u_45 H locs hw_46 hP hD hS => ?_)
              clear hPc hDc
              have hP : va_P D vwCl [(h0, .inr (8, [.ref q_1, .ref q_2, .ref q_3, .ref q_4, .ref q_5, .ref q_6, .ref q_7, .ref q_11, .ref q_15, .ref q_19, .ref q_23, .ref q_27, .ref q_31, .int 0])), (q_1, .inl (E 0, 400, .inl gf138_0)), (q_2, .inl (E 0, 16, .inl gf161_0)), (q_3, .inl (E 0, 16, .inl (fun _ => 0))), (q_4, .inl (E 3, 16, .inr (.inr (.inr (.inr (fun _ => none)))))), (q_5, .inl (E 4, 5, .inr (.inr (.inr (.inr (fun _ => none)))))), (q_7, .inr (2, [.ref (u_8 0), .ref (u_8 1), .ref (u_8 2), .ref (u_8 3), .ref (u_8 4), .int 0])), ((u_8 0), .inl (E 0, 60, .inl (fun _ => 0))), ((u_8 1), .inl (E 0, 60, .inl (fun _ => 0))), ((u_8 2), .inl (E 0, 60, .inl (fun _ => 0))), ((u_8 3), .inl (E 0, 60, .inl (fun _ => 0))), ((u_8 4), .inl (E 0, 60, .inl (fun _ => 0))), (q_19, .inr (6, [.ref (u_20 0), .int 0, .ref (u_20 1), .ref (E 5), .int 0, .int 0, .int 0, .int 0])), ((u_20 0), .inl (E 0, 120, .inl (fun _ => 0))), ((u_20 1), .inr (4, [.ref (u_20 2), .ref (u_20 3), .ref (u_20 4), .int 0])), (q_23, .inr (0, [.ref (u_24 0), .ref (u_24 1), .ref (u_24 2), .ref (u_24 3), .ref (u_24 4), .int 0, .int 0, .int 0, .int 0])), ((u_24 0), .inl (E 0, 9, .inl (fun _ => 0))), (q_44, .inr (5, sF u_45))] H := hP
              have hD : va_D A [(h0, .inr (8, [.ref q_1, .ref q_2, .ref q_3, .ref q_4, .ref q_5, .ref q_6, .ref q_7, .ref q_11, .ref q_15, .ref q_19, .ref q_23, .ref q_27, .ref q_31, .int 0])), (q_1, .inl (E 0, 400, .inl gf138_0)), (q_2, .inl (E 0, 16, .inl gf161_0)), (q_3, .inl (E 0, 16, .inl (fun _ => 0))), (q_4, .inl (E 3, 16, .inr (.inr (.inr (.inr (fun _ => none)))))), (q_5, .inl (E 4, 5, .inr (.inr (.inr (.inr (fun _ => none)))))), (q_7, .inr (2, [.ref (u_8 0), .ref (u_8 1), .ref (u_8 2), .ref (u_8 3), .ref (u_8 4), .int 0])), ((u_8 0), .inl (E 0, 60, .inl (fun _ => 0))), ((u_8 1), .inl (E 0, 60, .inl (fun _ => 0))), ((u_8 2), .inl (E 0, 60, .inl (fun _ => 0))), ((u_8 3), .inl (E 0, 60, .inl (fun _ => 0))), ((u_8 4), .inl (E 0, 60, .inl (fun _ => 0))), (q_19, .inr (6, [.ref (u_20 0), .int 0, .ref (u_20 1), .ref (E 5), .int 0, .int 0, .int 0, .int 0])), ((u_20 0), .inl (E 0, 120, .inl (fun _ => 0))), ((u_20 1), .inr (4, [.ref (u_20 2), .ref (u_20 3), .ref (u_20 4), .int 0])), (q_23, .inr (0, [.ref (u_24 0), .ref (u_24 1), .ref (u_24 2), .ref (u_24 3), .ref (u_24 4), .int 0, .int 0, .int 0, .int 0])), ((u_24 0), .inl (E 0, 9, .inl (fun _ => 0))), (q_44, .inr (5, sF u_45))] := hD
              refine W.widen (k := 45) (n := 2415) (Nat.le_of_ble_eq_true rfl) (Nat.le_of_ble_eq_true rfl) ?_
              refine va_astq hx hb hK.1 hP hD hS 5 4 17 5 rfl rfl rfl rfl (g_in t_0 (by decide) (by decide)) dX8_init_200 (fun H locs hP hD hS => ?_)
              have hP : va_P D vwCl [(h0, .inr (8, [.ref q_1, .ref q_2, .ref q_3, .ref q_4, .ref q_5, .ref q_6, .ref q_7, .ref q_11, .ref q_15, .ref q_19, .ref q_23, .ref q_27, .ref q_31, .int 0])), (q_1, .inl (E 0, 400, .inl gf138_0)), (q_2, .inl (E 0, 16, .inl gf161_0)), (q_3, .inl (E 0, 16, .inl (fun _ => 0))), (q_4, .inl (E 3, 16, .inr (.inr (.inr (.inr (fun _ => none)))))), (q_5, .inl (E 4, 5, .inr (.inr (.inr (.inr (va_up (fun _ => none) (0 : Int32).toNatClampNeg (some q_44))))))), (q_7, .inr (2, [.ref (u_8 0), .ref (u_8 1), .ref (u_8 2), .ref (u_8 3), .ref (u_8 4), .int 0])), ((u_8 0), .inl (E 0, 60, .inl (fun _ => 0))), ((u_8 1), .inl (E 0, 60, .inl (fun _ => 0))), ((u_8 2), .inl (E 0, 60, .inl (fun _ => 0))), ((u_8 3), .inl (E 0, 60, .inl (fun _ => 0))), ((u_8 4), .inl (E 0, 60, .inl (fun _ => 0))), (q_19, .inr (6, [.ref (u_20 0), .int 0, .ref (u_20 1), .ref (E 5), .int 0, .int 0, .int 0, .int 0])), ((u_20 0), .inl (E 0, 120, .inl (fun _ => 0))), ((u_20 1), .inr (4, [.ref (u_20 2), .ref (u_20 3), .ref (u_20 4), .int 0])), (q_23, .inr (0, [.ref (u_24 0), .ref (u_24 1), .ref (u_24 2), .ref (u_24 3), .ref (u_24 4), .int 0, .int 0, .int 0, .int 0])), ((u_24 0), .inl (E 0, 9, .inl (fun _ => 0))), (q_44, .inr (5, sF u_45))] H := hP
              have hD : va_D A [(h0, .inr (8, [.ref q_1, .ref q_2, .ref q_3, .ref q_4, .ref q_5, .ref q_6, .ref q_7, .ref q_11, .ref q_15, .ref q_19, .ref q_23, .ref q_27, .ref q_31, .int 0])), (q_1, .inl (E 0, 400, .inl gf138_0)), (q_2, .inl (E 0, 16, .inl gf161_0)), (q_3, .inl (E 0, 16, .inl (fun _ => 0))), (q_4, .inl (E 3, 16, .inr (.inr (.inr (.inr (fun _ => none)))))), (q_5, .inl (E 4, 5, .inr (.inr (.inr (.inr (va_up (fun _ => none) (0 : Int32).toNatClampNeg (some q_44))))))), (q_7, .inr (2, [.ref (u_8 0), .ref (u_8 1), .ref (u_8 2), .ref (u_8 3), .ref (u_8 4), .int 0])), ((u_8 0), .inl (E 0, 60, .inl (fun _ => 0))), ((u_8 1), .inl (E 0, 60, .inl (fun _ => 0))), ((u_8 2), .inl (E 0, 60, .inl (fun _ => 0))), ((u_8 3), .inl (E 0, 60, .inl (fun _ => 0))), ((u_8 4), .inl (E 0, 60, .inl (fun _ => 0))), (q_19, .inr (6, [.ref (u_20 0), .int 0, .ref (u_20 1), .ref (E 5), .int 0, .int 0, .int 0, .int 0])), ((u_20 0), .inl (E 0, 120, .inl (fun _ => 0))), ((u_20 1), .inr (4, [.ref (u_20 2), .ref (u_20 3), .ref (u_20 4), .int 0])), (q_23, .inr (0, [.ref (u_24 0), .ref (u_24 1), .ref (u_24 2), .ref (u_24 3), .ref (u_24 4), .int 0, .int 0, .int 0, .int 0])), ((u_24 0), .inl (E 0, 9, .inl (fun _ => 0))), (q_44, .inr (5, sF u_45))] := hD
              refine lv_iinc (v := 1) (lv' := [(1, .int 1), (0, .ref h0)]) hx hb dX8_init_201 hl (k := 0) rfl (by decide) (by decide) rfl (fun ls hl => ?_)
              refine lv_goto (tgt := 183) hx hb dX8_init_204 (by decide) ?_
              refine lv_iload_n hx hb dX8_init_183 rfl (lv_at hl 0 rfl) ?_
              refine lv_iconst (v := 5) hx hb dX8_init_184 (by decide) ?_
              refine lv_icmp_ge (tgt := 207) hx hb dX8_init_185 (by decide) (fun c_48 => absurd c_48 (by decide)) (fun c_48 => ?_)
              refine lv_aload_n hx hb dX8_init_188 rfl (lv_at hl 1 rfl) ?_
              refine va_get (D := D) (ci := 8) (v := .ref q_5) (C := RX8) (T := TX8) (N := 14) hx hb htb iX8 hown hK.1 hP 0 rfl rfl 4 (by decide) (htb _ k_276) (fun _ h9 => h9) rfl dX8_init_189 ?_
              refine lv_iload_n hx hb dX8_init_192 rfl (lv_at hl 0 rfl) ?_
              refine va_new (ci := 5) (fs := [.null, .null, .null, .null, .null, .null, .null, .int 0, .int 0, .int 0, .int 0]) (C := RX5) (T := TX5) (N := 11) hx hb htb iX5 tyX5 tyX5_ok hown (htb _ k_26) (htb _ k_223) (htb _ k_8) hK.1 hP hD hS hA rfl (by decide) (Nat.le_of_ble_eq_true rfl) (Nat.le_of_ble_eq_true rfl) dX8_init_193 (fun q_49 H hP hD hS => ?_)
              have hP : va_P D vwCl [(h0, .inr (8, [.ref q_1, .ref q_2, .ref q_3, .ref q_4, .ref q_5, .ref q_6, .ref q_7, .ref q_11, .ref q_15, .ref q_19, .ref q_23, .ref q_27, .ref q_31, .int 0])), (q_1, .inl (E 0, 400, .inl gf138_0)), (q_2, .inl (E 0, 16, .inl gf161_0)), (q_3, .inl (E 0, 16, .inl (fun _ => 0))), (q_4, .inl (E 3, 16, .inr (.inr (.inr (.inr (fun _ => none)))))), (q_5, .inl (E 4, 5, .inr (.inr (.inr (.inr (va_up (fun _ => none) (0 : Int32).toNatClampNeg (some q_44))))))), (q_7, .inr (2, [.ref (u_8 0), .ref (u_8 1), .ref (u_8 2), .ref (u_8 3), .ref (u_8 4), .int 0])), ((u_8 0), .inl (E 0, 60, .inl (fun _ => 0))), ((u_8 1), .inl (E 0, 60, .inl (fun _ => 0))), ((u_8 2), .inl (E 0, 60, .inl (fun _ => 0))), ((u_8 3), .inl (E 0, 60, .inl (fun _ => 0))), ((u_8 4), .inl (E 0, 60, .inl (fun _ => 0))), (q_19, .inr (6, [.ref (u_20 0), .int 0, .ref (u_20 1), .ref (E 5), .int 0, .int 0, .int 0, .int 0])), ((u_20 0), .inl (E 0, 120, .inl (fun _ => 0))), ((u_20 1), .inr (4, [.ref (u_20 2), .ref (u_20 3), .ref (u_20 4), .int 0])), (q_23, .inr (0, [.ref (u_24 0), .ref (u_24 1), .ref (u_24 2), .ref (u_24 3), .ref (u_24 4), .int 0, .int 0, .int 0, .int 0])), ((u_24 0), .inl (E 0, 9, .inl (fun _ => 0))), (q_44, .inr (5, sF u_45)), (q_49, .inr (5, [.null, .null, .null, .null, .null, .null, .null, .int 0, .int 0, .int 0, .int 0]))] H := hP
              have hD : va_D A [(h0, .inr (8, [.ref q_1, .ref q_2, .ref q_3, .ref q_4, .ref q_5, .ref q_6, .ref q_7, .ref q_11, .ref q_15, .ref q_19, .ref q_23, .ref q_27, .ref q_31, .int 0])), (q_1, .inl (E 0, 400, .inl gf138_0)), (q_2, .inl (E 0, 16, .inl gf161_0)), (q_3, .inl (E 0, 16, .inl (fun _ => 0))), (q_4, .inl (E 3, 16, .inr (.inr (.inr (.inr (fun _ => none)))))), (q_5, .inl (E 4, 5, .inr (.inr (.inr (.inr (va_up (fun _ => none) (0 : Int32).toNatClampNeg (some q_44))))))), (q_7, .inr (2, [.ref (u_8 0), .ref (u_8 1), .ref (u_8 2), .ref (u_8 3), .ref (u_8 4), .int 0])), ((u_8 0), .inl (E 0, 60, .inl (fun _ => 0))), ((u_8 1), .inl (E 0, 60, .inl (fun _ => 0))), ((u_8 2), .inl (E 0, 60, .inl (fun _ => 0))), ((u_8 3), .inl (E 0, 60, .inl (fun _ => 0))), ((u_8 4), .inl (E 0, 60, .inl (fun _ => 0))), (q_19, .inr (6, [.ref (u_20 0), .int 0, .ref (u_20 1), .ref (E 5), .int 0, .int 0, .int 0, .int 0])), ((u_20 0), .inl (E 0, 120, .inl (fun _ => 0))), ((u_20 1), .inr (4, [.ref (u_20 2), .ref (u_20 3), .ref (u_20 4), .int 0])), (q_23, .inr (0, [.ref (u_24 0), .ref (u_24 1), .ref (u_24 2), .ref (u_24 3), .ref (u_24 4), .int 0, .int 0, .int 0, .int 0])), ((u_24 0), .inl (E 0, 9, .inl (fun _ => 0))), (q_44, .inr (5, sF u_45)), (q_49, .inr (5, [.null, .null, .null, .null, .null, .null, .null, .int 0, .int 0, .int 0, .int 0]))] := hD
              refine W.widen (k := 46) (n := 2426) (Nat.le_of_ble_eq_true rfl) (Nat.le_of_ble_eq_true rfl) ?_
              refine lv_dup hx hb dX8_init_196 rfl ?_
              have hPc := hP.sub (ws' := [(q_49, .inr (5, [.null, .null, .null, .null, .null, .null, .null, .int 0, .int 0, .int 0, .int 0]))]) [18] rfl
              have hDc := hD.sub (ws' := [(q_49, .inr (5, [.null, .null, .null, .null, .null, .null, .null, .int 0, .int 0, .int 0, .int 0]))]) [18] (by decide) rfl
              refine aft_v (runMN (rest := [.ref q_49, .int 1, .ref q_5]) (As := []) hx hb hml hown htb hK (c_X5_init l D E q_49 _ ) ok_X5_init rfl (show Cond.methodLinkNest RX8 83 yX5_init RX8 ∈ nestW by decide +kernel) k_225 k_8 k_226 ⟨(Nat.le_of_ble_eq_true rfl), (Nat.le_of_ble_eq_true rfl)⟩ ⟨(Nat.le_of_ble_eq_true rfl), (Nat.le_of_ble_eq_true rfl)⟩ hl.1 (Nat.le_of_ble_eq_true rfl) rfl rfl dX8_init_197 hPc hDc) hP hD hS hA [18] [0, 1, 2, 3, 4, 5, 6, 7, 8, 9, 10, 11, 12, 13, 14, 15, 16, 17] (wr := [(h0, .inr (8, [.ref q_1, .ref q_2, .ref q_3, .ref q_4, .ref q_5, .ref q_6, .ref q_7, .ref q_11, .ref q_15, .ref q_19, .ref q_23, .ref q_27, .ref q_31, .int 0])), (q_1, .inl (E 0, 400, .inl gf138_0)), (q_2, .inl (E 0, 16, .inl gf161_0)), (q_3, .inl (E 0, 16, .inl (fun _ => 0))), (q_4, .inl (E 3, 16, .inr (.inr (.inr (.inr (fun _ => none)))))), (q_5, .inl (E 4, 5, .inr (.inr (.inr (.inr (va_up (fun _ => none) (0 : Int32).toNatClampNeg (some q_44))))))), (q_7, .inr (2, [.ref (u_8 0), .ref (u_8 1), .ref (u_8 2), .ref (u_8 3), .ref (u_8 4), .int 0])), ((u_8 0), .inl (E 0, 60, .inl (fun _ => 0))), ((u_8 1), .inl (E 0, 60, .inl (fun _ => 0))), ((u_8 2), .inl (E 0, 60, .inl (fun _ => 0))), ((u_8 3), .inl (E 0, 60, .inl (fun _ => 0))), ((u_8 4), .inl (E 0, 60, .inl (fun _ => 0))), (q_19, .inr (6, [.ref (u_20 0), .int 0, .ref (u_20 1), .ref (E 5), .int 0, .int 0, .int 0, .int 0])), ((u_20 0), .inl (E 0, 120, .inl (fun _ => 0))), ((u_20 1), .inr (4, [.ref (u_20 2), .ref (u_20 3), .ref (u_20 4), .int 0])), (q_23, .inr (0, [.ref (u_24 0), .ref (u_24 1), .ref (u_24 2), .ref (u_24 3), .ref (u_24 4), .int 0, .int 0, .int 0, .int 0])), ((u_24 0), .inl (E 0, 9, .inl (fun _ => 0))), (q_44, .inr (5, sF u_45))]) rfl rfl (by decide) (by decide) (fun u_50 H locs hw_51 hP hD hS => ?_)
              clear hPc hDc
              have hP : va_P D vwCl [(h0, .inr (8, [.ref q_1, .ref q_2, .ref q_3, .ref q_4, .ref q_5, .ref q_6, .ref q_7, .ref q_11, .ref q_15, .ref q_19, .ref q_23, .ref q_27, .ref q_31, .int 0])), (q_1, .inl (E 0, 400, .inl gf138_0)), (q_2, .inl (E 0, 16, .inl gf161_0)), (q_3, .inl (E 0, 16, .inl (fun _ => 0))), (q_4, .inl (E 3, 16, .inr (.inr (.inr (.inr (fun _ => none)))))), (q_5, .inl (E 4, 5, .inr (.inr (.inr (.inr (va_up (fun _ => none) (0 : Int32).toNatClampNeg (some q_44))))))), (q_7, .inr (2, [.ref (u_8 0), .ref (u_8 1), .ref (u_8 2), .ref (u_8 3), .ref (u_8 4), .int 0])), ((u_8 0), .inl (E 0, 60, .inl (fun _ => 0))), ((u_8 1), .inl (E 0, 60, .inl (fun _ => 0))), ((u_8 2), .inl (E 0, 60, .inl (fun _ => 0))), ((u_8 3), .inl (E 0, 60, .inl (fun _ => 0))), ((u_8 4), .inl (E 0, 60, .inl (fun _ => 0))), (q_19, .inr (6, [.ref (u_20 0), .int 0, .ref (u_20 1), .ref (E 5), .int 0, .int 0, .int 0, .int 0])), ((u_20 0), .inl (E 0, 120, .inl (fun _ => 0))), ((u_20 1), .inr (4, [.ref (u_20 2), .ref (u_20 3), .ref (u_20 4), .int 0])), (q_23, .inr (0, [.ref (u_24 0), .ref (u_24 1), .ref (u_24 2), .ref (u_24 3), .ref (u_24 4), .int 0, .int 0, .int 0, .int 0])), ((u_24 0), .inl (E 0, 9, .inl (fun _ => 0))), (q_44, .inr (5, sF u_45)), (q_49, .inr (5, sF u_50))] H := hP
              have hD : va_D A [(h0, .inr (8, [.ref q_1, .ref q_2, .ref q_3, .ref q_4, .ref q_5, .ref q_6, .ref q_7, .ref q_11, .ref q_15, .ref q_19, .ref q_23, .ref q_27, .ref q_31, .int 0])), (q_1, .inl (E 0, 400, .inl gf138_0)), (q_2, .inl (E 0, 16, .inl gf161_0)), (q_3, .inl (E 0, 16, .inl (fun _ => 0))), (q_4, .inl (E 3, 16, .inr (.inr (.inr (.inr (fun _ => none)))))), (q_5, .inl (E 4, 5, .inr (.inr (.inr (.inr (va_up (fun _ => none) (0 : Int32).toNatClampNeg (some q_44))))))), (q_7, .inr (2, [.ref (u_8 0), .ref (u_8 1), .ref (u_8 2), .ref (u_8 3), .ref (u_8 4), .int 0])), ((u_8 0), .inl (E 0, 60, .inl (fun _ => 0))), ((u_8 1), .inl (E 0, 60, .inl (fun _ => 0))), ((u_8 2), .inl (E 0, 60, .inl (fun _ => 0))), ((u_8 3), .inl (E 0, 60, .inl (fun _ => 0))), ((u_8 4), .inl (E 0, 60, .inl (fun _ => 0))), (q_19, .inr (6, [.ref (u_20 0), .int 0, .ref (u_20 1), .ref (E 5), .int 0, .int 0, .int 0, .int 0])), ((u_20 0), .inl (E 0, 120, .inl (fun _ => 0))), ((u_20 1), .inr (4, [.ref (u_20 2), .ref (u_20 3), .ref (u_20 4), .int 0])), (q_23, .inr (0, [.ref (u_24 0), .ref (u_24 1), .ref (u_24 2), .ref (u_24 3), .ref (u_24 4), .int 0, .int 0, .int 0, .int 0])), ((u_24 0), .inl (E 0, 9, .inl (fun _ => 0))), (q_44, .inr (5, sF u_45)), (q_49, .inr (5, sF u_50))] := hD
              refine W.widen (k := 53) (n := 2601) (Nat.le_of_ble_eq_true rfl) (Nat.le_of_ble_eq_true rfl) ?_
              refine va_astq hx hb hK.1 hP hD hS 5 4 18 5 rfl rfl rfl rfl (g_in t_1 (by decide) (by decide)) dX8_init_200 (fun H locs hP hD hS => ?_)
              have hP : va_P D vwCl [(h0, .inr (8, [.ref q_1, .ref q_2, .ref q_3, .ref q_4, .ref q_5, .ref q_6, .ref q_7, .ref q_11, .ref q_15, .ref q_19, .ref q_23, .ref q_27, .ref q_31, .int 0])), (q_1, .inl (E 0, 400, .inl gf138_0)), (q_2, .inl (E 0, 16, .inl gf161_0)), (q_3, .inl (E 0, 16, .inl (fun _ => 0))), (q_4, .inl (E 3, 16, .inr (.inr (.inr (.inr (fun _ => none)))))), (q_5, .inl (E 4, 5, .inr (.inr (.inr (.inr (va_up (va_up (fun _ => none) (0 : Int32).toNatClampNeg (some q_44)) (1 : Int32).toNatClampNeg (some q_49))))))), (q_7, .inr (2, [.ref (u_8 0), .ref (u_8 1), .ref (u_8 2), .ref (u_8 3), .ref (u_8 4), .int 0])), ((u_8 0), .inl (E 0, 60, .inl (fun _ => 0))), ((u_8 1), .inl (E 0, 60, .inl (fun _ => 0))), ((u_8 2), .inl (E 0, 60, .inl (fun _ => 0))), ((u_8 3), .inl (E 0, 60, .inl (fun _ => 0))), ((u_8 4), .inl (E 0, 60, .inl (fun _ => 0))), (q_19, .inr (6, [.ref (u_20 0), .int 0, .ref (u_20 1), .ref (E 5), .int 0, .int 0, .int 0, .int 0])), ((u_20 0), .inl (E 0, 120, .inl (fun _ => 0))), ((u_20 1), .inr (4, [.ref (u_20 2), .ref (u_20 3), .ref (u_20 4), .int 0])), (q_23, .inr (0, [.ref (u_24 0), .ref (u_24 1), .ref (u_24 2), .ref (u_24 3), .ref (u_24 4), .int 0, .int 0, .int 0, .int 0])), ((u_24 0), .inl (E 0, 9, .inl (fun _ => 0))), (q_44, .inr (5, sF u_45)), (q_49, .inr (5, sF u_50))] H := hP
              have hD : va_D A [(h0, .inr (8, [.ref q_1, .ref q_2, .ref q_3, .ref q_4, .ref q_5, .ref q_6, .ref q_7, .ref q_11, .ref q_15, .ref q_19, .ref q_23, .ref q_27, .ref q_31, .int 0])), (q_1, .inl (E 0, 400, .inl gf138_0)), (q_2, .inl (E 0, 16, .inl gf161_0)), (q_3, .inl (E 0, 16, .inl (fun _ => 0))), (q_4, .inl (E 3, 16, .inr (.inr (.inr (.inr (fun _ => none)))))), (q_5, .inl (E 4, 5, .inr (.inr (.inr (.inr (va_up (va_up (fun _ => none) (0 : Int32).toNatClampNeg (some q_44)) (1 : Int32).toNatClampNeg (some q_49))))))), (q_7, .inr (2, [.ref (u_8 0), .ref (u_8 1), .ref (u_8 2), .ref (u_8 3), .ref (u_8 4), .int 0])), ((u_8 0), .inl (E 0, 60, .inl (fun _ => 0))), ((u_8 1), .inl (E 0, 60, .inl (fun _ => 0))), ((u_8 2), .inl (E 0, 60, .inl (fun _ => 0))), ((u_8 3), .inl (E 0, 60, .inl (fun _ => 0))), ((u_8 4), .inl (E 0, 60, .inl (fun _ => 0))), (q_19, .inr (6, [.ref (u_20 0), .int 0, .ref (u_20 1), .ref (E 5), .int 0, .int 0, .int 0, .int 0])), ((u_20 0), .inl (E 0, 120, .inl (fun _ => 0))), ((u_20 1), .inr (4, [.ref (u_20 2), .ref (u_20 3), .ref (u_20 4), .int 0])), (q_23, .inr (0, [.ref (u_24 0), .ref (u_24 1), .ref (u_24 2), .ref (u_24 3), .ref (u_24 4), .int 0, .int 0, .int 0, .int 0])), ((u_24 0), .inl (E 0, 9, .inl (fun _ => 0))), (q_44, .inr (5, sF u_45)), (q_49, .inr (5, sF u_50))] := hD
              refine lv_iinc (v := 2) (lv' := [(1, .int 2), (0, .ref h0)]) hx hb dX8_init_201 hl (k := 0) rfl (by decide) (by decide) rfl (fun ls hl => ?_)
              refine lv_goto (tgt := 183) hx hb dX8_init_204 (by decide) ?_
              refine lv_iload_n hx hb dX8_init_183 rfl (lv_at hl 0 rfl) ?_
              refine lv_iconst (v := 5) hx hb dX8_init_184 (by decide) ?_
              refine lv_icmp_ge (tgt := 207) hx hb dX8_init_185 (by decide) (fun c_53 => absurd c_53 (by decide)) (fun c_53 => ?_)
              refine lv_aload_n hx hb dX8_init_188 rfl (lv_at hl 1 rfl) ?_
              refine va_get (D := D) (ci := 8) (v := .ref q_5) (C := RX8) (T := TX8) (N := 14) hx hb htb iX8 hown hK.1 hP 0 rfl rfl 4 (by decide) (htb _ k_276) (fun _ h9 => h9) rfl dX8_init_189 ?_
              refine lv_iload_n hx hb dX8_init_192 rfl (lv_at hl 0 rfl) ?_
              refine va_new (ci := 5) (fs := [.null, .null, .null, .null, .null, .null, .null, .int 0, .int 0, .int 0, .int 0]) (C := RX5) (T := TX5) (N := 11) hx hb htb iX5 tyX5 tyX5_ok hown (htb _ k_26) (htb _ k_223) (htb _ k_8) hK.1 hP hD hS hA rfl (by decide) (Nat.le_of_ble_eq_true rfl) (Nat.le_of_ble_eq_true rfl) dX8_init_193 (fun q_54 H hP hD hS => ?_)
              have hP : va_P D vwCl [(h0, .inr (8, [.ref q_1, .ref q_2, .ref q_3, .ref q_4, .ref q_5, .ref q_6, .ref q_7, .ref q_11, .ref q_15, .ref q_19, .ref q_23, .ref q_27, .ref q_31, .int 0])), (q_1, .inl (E 0, 400, .inl gf138_0)), (q_2, .inl (E 0, 16, .inl gf161_0)), (q_3, .inl (E 0, 16, .inl (fun _ => 0))), (q_4, .inl (E 3, 16, .inr (.inr (.inr (.inr (fun _ => none)))))), (q_5, .inl (E 4, 5, .inr (.inr (.inr (.inr (va_up (va_up (fun _ => none) (0 : Int32).toNatClampNeg (some q_44)) (1 : Int32).toNatClampNeg (some q_49))))))), (q_7, .inr (2, [.ref (u_8 0), .ref (u_8 1), .ref (u_8 2), .ref (u_8 3), .ref (u_8 4), .int 0])), ((u_8 0), .inl (E 0, 60, .inl (fun _ => 0))), ((u_8 1), .inl (E 0, 60, .inl (fun _ => 0))), ((u_8 2), .inl (E 0, 60, .inl (fun _ => 0))), ((u_8 3), .inl (E 0, 60, .inl (fun _ => 0))), ((u_8 4), .inl (E 0, 60, .inl (fun _ => 0))), (q_19, .inr (6, [.ref (u_20 0), .int 0, .ref (u_20 1), .ref (E 5), .int 0, .int 0, .int 0, .int 0])), ((u_20 0), .inl (E 0, 120, .inl (fun _ => 0))), ((u_20 1), .inr (4, [.ref (u_20 2), .ref (u_20 3), .ref (u_20 4), .int 0])), (q_23, .inr (0, [.ref (u_24 0), .ref (u_24 1), .ref (u_24 2), .ref (u_24 3), .ref (u_24 4), .int 0, .int 0, .int 0, .int 0])), ((u_24 0), .inl (E 0, 9, .inl (fun _ => 0))), (q_44, .inr (5, sF u_45)), (q_49, .inr (5, sF u_50)), (q_54, .inr (5, [.null, .null, .null, .null, .null, .null, .null, .int 0, .int 0, .int 0, .int 0]))] H := hP
              have hD : va_D A [(h0, .inr (8, [.ref q_1, .ref q_2, .ref q_3, .ref q_4, .ref q_5, .ref q_6, .ref q_7, .ref q_11, .ref q_15, .ref q_19, .ref q_23, .ref q_27, .ref q_31, .int 0])), (q_1, .inl (E 0, 400, .inl gf138_0)), (q_2, .inl (E 0, 16, .inl gf161_0)), (q_3, .inl (E 0, 16, .inl (fun _ => 0))), (q_4, .inl (E 3, 16, .inr (.inr (.inr (.inr (fun _ => none)))))), (q_5, .inl (E 4, 5, .inr (.inr (.inr (.inr (va_up (va_up (fun _ => none) (0 : Int32).toNatClampNeg (some q_44)) (1 : Int32).toNatClampNeg (some q_49))))))), (q_7, .inr (2, [.ref (u_8 0), .ref (u_8 1), .ref (u_8 2), .ref (u_8 3), .ref (u_8 4), .int 0])), ((u_8 0), .inl (E 0, 60, .inl (fun _ => 0))), ((u_8 1), .inl (E 0, 60, .inl (fun _ => 0))), ((u_8 2), .inl (E 0, 60, .inl (fun _ => 0))), ((u_8 3), .inl (E 0, 60, .inl (fun _ => 0))), ((u_8 4), .inl (E 0, 60, .inl (fun _ => 0))), (q_19, .inr (6, [.ref (u_20 0), .int 0, .ref (u_20 1), .ref (E 5), .int 0, .int 0, .int 0, .int 0])), ((u_20 0), .inl (E 0, 120, .inl (fun _ => 0))), ((u_20 1), .inr (4, [.ref (u_20 2), .ref (u_20 3), .ref (u_20 4), .int 0])), (q_23, .inr (0, [.ref (u_24 0), .ref (u_24 1), .ref (u_24 2), .ref (u_24 3), .ref (u_24 4), .int 0, .int 0, .int 0, .int 0])), ((u_24 0), .inl (E 0, 9, .inl (fun _ => 0))), (q_44, .inr (5, sF u_45)), (q_49, .inr (5, sF u_50)), (q_54, .inr (5, [.null, .null, .null, .null, .null, .null, .null, .int 0, .int 0, .int 0, .int 0]))] := hD
              refine W.widen (k := 54) (n := 2612) (Nat.le_of_ble_eq_true rfl) (Nat.le_of_ble_eq_true rfl) ?_
              refine lv_dup hx hb dX8_init_196 rfl ?_
              have hPc := hP.sub (ws' := [(q_54, .inr (5, [.null, .null, .null, .null, .null, .null, .null, .int 0, .int 0, .int 0, .int 0]))]) [19] rfl
              have hDc := hD.sub (ws' := [(q_54, .inr (5, [.null, .null, .null, .null, .null, .null, .null, .int 0, .int 0, .int 0, .int 0]))]) [19] (by decide) rfl
              refine aft_v (runMN (rest := [.ref q_54, .int 2, .ref q_5]) (As := []) hx hb hml hown htb hK (c_X5_init l D E q_54 _ ) ok_X5_init rfl (show Cond.methodLinkNest RX8 83 yX5_init RX8 ∈ nestW by decide +kernel) k_225 k_8 k_226 ⟨(Nat.le_of_ble_eq_true rfl), (Nat.le_of_ble_eq_true rfl)⟩ ⟨(Nat.le_of_ble_eq_true rfl), (Nat.le_of_ble_eq_true rfl)⟩ hl.1 (Nat.le_of_ble_eq_true rfl) rfl rfl dX8_init_197 hPc hDc) hP hD hS hA [19] [0, 1, 2, 3, 4, 5, 6, 7, 8, 9, 10, 11, 12, 13, 14, 15, 16, 17, 18] (wr := [(h0, .inr (8, [.ref q_1, .ref q_2, .ref q_3, .ref q_4, .ref q_5, .ref q_6, .ref q_7, .ref q_11, .ref q_15, .ref q_19, .ref q_23, .ref q_27, .ref q_31, .int 0])), (q_1, .inl (E 0, 400, .inl gf138_0)), (q_2, .inl (E 0, 16, .inl gf161_0)), (q_3, .inl (E 0, 16, .inl (fun _ => 0))), (q_4, .inl (E 3, 16, .inr (.inr (.inr (.inr (fun _ => none)))))), (q_5, .inl (E 4, 5, .inr (.inr (.inr (.inr (va_up (va_up (fun _ => none) (0 : Int32).toNatClampNeg (some q_44)) (1 : Int32).toNatClampNeg (some q_49))))))), (q_7, .inr (2, [.ref (u_8 0), .ref (u_8 1), .ref (u_8 2), .ref (u_8 3), .ref (u_8 4), .int 0])), ((u_8 0), .inl (E 0, 60, .inl (fun _ => 0))), ((u_8 1), .inl (E 0, 60, .inl (fun _ => 0))), ((u_8 2), .inl (E 0, 60, .inl (fun _ => 0))), ((u_8 3), .inl (E 0, 60, .inl (fun _ => 0))), ((u_8 4), .inl (E 0, 60, .inl (fun _ => 0))), (q_19, .inr (6, [.ref (u_20 0), .int 0, .ref (u_20 1), .ref (E 5), .int 0, .int 0, .int 0, .int 0])), ((u_20 0), .inl (E 0, 120, .inl (fun _ => 0))), ((u_20 1), .inr (4, [.ref (u_20 2), .ref (u_20 3), .ref (u_20 4), .int 0])), (q_23, .inr (0, [.ref (u_24 0), .ref (u_24 1), .ref (u_24 2), .ref (u_24 3), .ref (u_24 4), .int 0, .int 0, .int 0, .int 0])), ((u_24 0), .inl (E 0, 9, .inl (fun _ => 0))), (q_44, .inr (5, sF u_45)), (q_49, .inr (5, sF u_50))]) rfl rfl (by decide) (by decide) (fun u_55 H locs hw_56 hP hD hS => ?_)
              clear hPc hDc
              have hP : va_P D vwCl [(h0, .inr (8, [.ref q_1, .ref q_2, .ref q_3, .ref q_4, .ref q_5, .ref q_6, .ref q_7, .ref q_11, .ref q_15, .ref q_19, .ref q_23, .ref q_27, .ref q_31, .int 0])), (q_1, .inl (E 0, 400, .inl gf138_0)), (q_2, .inl (E 0, 16, .inl gf161_0)), (q_3, .inl (E 0, 16, .inl (fun _ => 0))), (q_4, .inl (E 3, 16, .inr (.inr (.inr (.inr (fun _ => none)))))), (q_5, .inl (E 4, 5, .inr (.inr (.inr (.inr (va_up (va_up (fun _ => none) (0 : Int32).toNatClampNeg (some q_44)) (1 : Int32).toNatClampNeg (some q_49))))))), (q_7, .inr (2, [.ref (u_8 0), .ref (u_8 1), .ref (u_8 2), .ref (u_8 3), .ref (u_8 4), .int 0])), ((u_8 0), .inl (E 0, 60, .inl (fun _ => 0))), ((u_8 1), .inl (E 0, 60, .inl (fun _ => 0))), ((u_8 2), .inl (E 0, 60, .inl (fun _ => 0))), ((u_8 3), .inl (E 0, 60, .inl (fun _ => 0))), ((u_8 4), .inl (E 0, 60, .inl (fun _ => 0))), (q_19, .inr (6, [.ref (u_20 0), .int 0, .ref (u_20 1), .ref (E 5), .int 0, .int 0, .int 0, .int 0])), ((u_20 0), .inl (E 0, 120, .inl (fun _ => 0))), ((u_20 1), .inr (4, [.ref (u_20 2), .ref (u_20 3), .ref (u_20 4), .int 0])), (q_23, .inr (0, [.ref (u_24 0), .ref (u_24 1), .ref (u_24 2), .ref (u_24 3), .ref (u_24 4), .int 0, .int 0, .int 0, .int 0])), ((u_24 0), .inl (E 0, 9, .inl (fun _ => 0))), (q_44, .inr (5, sF u_45)), (q_49, .inr (5, sF u_50)), (q_54, .inr (5, sF u_55))] H := hP
              have hD : va_D A [(h0, .inr (8, [.ref q_1, .ref q_2, .ref q_3, .ref q_4, .ref q_5, .ref q_6, .ref q_7, .ref q_11, .ref q_15, .ref q_19, .ref q_23, .ref q_27, .ref q_31, .int 0])), (q_1, .inl (E 0, 400, .inl gf138_0)), (q_2, .inl (E 0, 16, .inl gf161_0)), (q_3, .inl (E 0, 16, .inl (fun _ => 0))), (q_4, .inl (E 3, 16, .inr (.inr (.inr (.inr (fun _ => none)))))), (q_5, .inl (E 4, 5, .inr (.inr (.inr (.inr (va_up (va_up (fun _ => none) (0 : Int32).toNatClampNeg (some q_44)) (1 : Int32).toNatClampNeg (some q_49))))))), (q_7, .inr (2, [.ref (u_8 0), .ref (u_8 1), .ref (u_8 2), .ref (u_8 3), .ref (u_8 4), .int 0])), ((u_8 0), .inl (E 0, 60, .inl (fun _ => 0))), ((u_8 1), .inl (E 0, 60, .inl (fun _ => 0))), ((u_8 2), .inl (E 0, 60, .inl (fun _ => 0))), ((u_8 3), .inl (E 0, 60, .inl (fun _ => 0))), ((u_8 4), .inl (E 0, 60, .inl (fun _ => 0))), (q_19, .inr (6, [.ref (u_20 0), .int 0, .ref (u_20 1), .ref (E 5), .int 0, .int 0, .int 0, .int 0])), ((u_20 0), .inl (E 0, 120, .inl (fun _ => 0))), ((u_20 1), .inr (4, [.ref (u_20 2), .ref (u_20 3), .ref (u_20 4), .int 0])), (q_23, .inr (0, [.ref (u_24 0), .ref (u_24 1), .ref (u_24 2), .ref (u_24 3), .ref (u_24 4), .int 0, .int 0, .int 0, .int 0])), ((u_24 0), .inl (E 0, 9, .inl (fun _ => 0))), (q_44, .inr (5, sF u_45)), (q_49, .inr (5, sF u_50)), (q_54, .inr (5, sF u_55))] := hD
              refine W.widen (k := 61) (n := 2787) (Nat.le_of_ble_eq_true rfl) (Nat.le_of_ble_eq_true rfl) ?_
              refine va_astq hx hb hK.1 hP hD hS 5 4 19 5 rfl rfl rfl rfl (g_in t_2 (by decide) (by decide)) dX8_init_200 (fun H locs hP hD hS => ?_)
              have hP : va_P D vwCl [(h0, .inr (8, [.ref q_1, .ref q_2, .ref q_3, .ref q_4, .ref q_5, .ref q_6, .ref q_7, .ref q_11, .ref q_15, .ref q_19, .ref q_23, .ref q_27, .ref q_31, .int 0])), (q_1, .inl (E 0, 400, .inl gf138_0)), (q_2, .inl (E 0, 16, .inl gf161_0)), (q_3, .inl (E 0, 16, .inl (fun _ => 0))), (q_4, .inl (E 3, 16, .inr (.inr (.inr (.inr (fun _ => none)))))), (q_5, .inl (E 4, 5, .inr (.inr (.inr (.inr (va_up (va_up (va_up (fun _ => none) (0 : Int32).toNatClampNeg (some q_44)) (1 : Int32).toNatClampNeg (some q_49)) (2 : Int32).toNatClampNeg (some q_54))))))), (q_7, .inr (2, [.ref (u_8 0), .ref (u_8 1), .ref (u_8 2), .ref (u_8 3), .ref (u_8 4), .int 0])), ((u_8 0), .inl (E 0, 60, .inl (fun _ => 0))), ((u_8 1), .inl (E 0, 60, .inl (fun _ => 0))), ((u_8 2), .inl (E 0, 60, .inl (fun _ => 0))), ((u_8 3), .inl (E 0, 60, .inl (fun _ => 0))), ((u_8 4), .inl (E 0, 60, .inl (fun _ => 0))), (q_19, .inr (6, [.ref (u_20 0), .int 0, .ref (u_20 1), .ref (E 5), .int 0, .int 0, .int 0, .int 0])), ((u_20 0), .inl (E 0, 120, .inl (fun _ => 0))), ((u_20 1), .inr (4, [.ref (u_20 2), .ref (u_20 3), .ref (u_20 4), .int 0])), (q_23, .inr (0, [.ref (u_24 0), .ref (u_24 1), .ref (u_24 2), .ref (u_24 3), .ref (u_24 4), .int 0, .int 0, .int 0, .int 0])), ((u_24 0), .inl (E 0, 9, .inl (fun _ => 0))), (q_44, .inr (5, sF u_45)), (q_49, .inr (5, sF u_50)), (q_54, .inr (5, sF u_55))] H := hP
              have hD : va_D A [(h0, .inr (8, [.ref q_1, .ref q_2, .ref q_3, .ref q_4, .ref q_5, .ref q_6, .ref q_7, .ref q_11, .ref q_15, .ref q_19, .ref q_23, .ref q_27, .ref q_31, .int 0])), (q_1, .inl (E 0, 400, .inl gf138_0)), (q_2, .inl (E 0, 16, .inl gf161_0)), (q_3, .inl (E 0, 16, .inl (fun _ => 0))), (q_4, .inl (E 3, 16, .inr (.inr (.inr (.inr (fun _ => none)))))), (q_5, .inl (E 4, 5, .inr (.inr (.inr (.inr (va_up (va_up (va_up (fun _ => none) (0 : Int32).toNatClampNeg (some q_44)) (1 : Int32).toNatClampNeg (some q_49)) (2 : Int32).toNatClampNeg (some q_54))))))), (q_7, .inr (2, [.ref (u_8 0), .ref (u_8 1), .ref (u_8 2), .ref (u_8 3), .ref (u_8 4), .int 0])), ((u_8 0), .inl (E 0, 60, .inl (fun _ => 0))), ((u_8 1), .inl (E 0, 60, .inl (fun _ => 0))), ((u_8 2), .inl (E 0, 60, .inl (fun _ => 0))), ((u_8 3), .inl (E 0, 60, .inl (fun _ => 0))), ((u_8 4), .inl (E 0, 60, .inl (fun _ => 0))), (q_19, .inr (6, [.ref (u_20 0), .int 0, .ref (u_20 1), .ref (E 5), .int 0, .int 0, .int 0, .int 0])), ((u_20 0), .inl (E 0, 120, .inl (fun _ => 0))), ((u_20 1), .inr (4, [.ref (u_20 2), .ref (u_20 3), .ref (u_20 4), .int 0])), (q_23, .inr (0, [.ref (u_24 0), .ref (u_24 1), .ref (u_24 2), .ref (u_24 3), .ref (u_24 4), .int 0, .int 0, .int 0, .int 0])), ((u_24 0), .inl (E 0, 9, .inl (fun _ => 0))), (q_44, .inr (5, sF u_45)), (q_49, .inr (5, sF u_50)), (q_54, .inr (5, sF u_55))] := hD
              refine lv_iinc (v := 3) (lv' := [(1, .int 3), (0, .ref h0)]) hx hb dX8_init_201 hl (k := 0) rfl (by decide) (by decide) rfl (fun ls hl => ?_)
              refine lv_goto (tgt := 183) hx hb dX8_init_204 (by decide) ?_
              refine lv_iload_n hx hb dX8_init_183 rfl (lv_at hl 0 rfl) ?_
              refine lv_iconst (v := 5) hx hb dX8_init_184 (by decide) ?_
              refine lv_icmp_ge (tgt := 207) hx hb dX8_init_185 (by decide) (fun c_58 => absurd c_58 (by decide)) (fun c_58 => ?_)
              refine lv_aload_n hx hb dX8_init_188 rfl (lv_at hl 1 rfl) ?_
              refine va_get (D := D) (ci := 8) (v := .ref q_5) (C := RX8) (T := TX8) (N := 14) hx hb htb iX8 hown hK.1 hP 0 rfl rfl 4 (by decide) (htb _ k_276) (fun _ h9 => h9) rfl dX8_init_189 ?_
              refine lv_iload_n hx hb dX8_init_192 rfl (lv_at hl 0 rfl) ?_
              refine va_new (ci := 5) (fs := [.null, .null, .null, .null, .null, .null, .null, .int 0, .int 0, .int 0, .int 0]) (C := RX5) (T := TX5) (N := 11) hx hb htb iX5 tyX5 tyX5_ok hown (htb _ k_26) (htb _ k_223) (htb _ k_8) hK.1 hP hD hS hA rfl (by decide) (Nat.le_of_ble_eq_true rfl) (Nat.le_of_ble_eq_true rfl) dX8_init_193 (fun q_59 H hP hD hS => ?_)
              have hP : va_P D vwCl [(h0, .inr (8, [.ref q_1, .ref q_2, .ref q_3, .ref q_4, .ref q_5, .ref q_6, .ref q_7, .ref q_11, .ref q_15, .ref q_19, .ref q_23, .ref q_27, .ref q_31, .int 0])), (q_1, .inl (E 0, 400, .inl gf138_0)), (q_2, .inl (E 0, 16, .inl gf161_0)), (q_3, .inl (E 0, 16, .inl (fun _ => 0))), (q_4, .inl (E 3, 16, .inr (.inr (.inr (.inr (fun _ => none)))))), (q_5, .inl (E 4, 5, .inr (.inr (.inr (.inr (va_up (va_up (va_up (fun _ => none) (0 : Int32).toNatClampNeg (some q_44)) (1 : Int32).toNatClampNeg (some q_49)) (2 : Int32).toNatClampNeg (some q_54))))))), (q_7, .inr (2, [.ref (u_8 0), .ref (u_8 1), .ref (u_8 2), .ref (u_8 3), .ref (u_8 4), .int 0])), ((u_8 0), .inl (E 0, 60, .inl (fun _ => 0))), ((u_8 1), .inl (E 0, 60, .inl (fun _ => 0))), ((u_8 2), .inl (E 0, 60, .inl (fun _ => 0))), ((u_8 3), .inl (E 0, 60, .inl (fun _ => 0))), ((u_8 4), .inl (E 0, 60, .inl (fun _ => 0))), (q_19, .inr (6, [.ref (u_20 0), .int 0, .ref (u_20 1), .ref (E 5), .int 0, .int 0, .int 0, .int 0])), ((u_20 0), .inl (E 0, 120, .inl (fun _ => 0))), ((u_20 1), .inr (4, [.ref (u_20 2), .ref (u_20 3), .ref (u_20 4), .int 0])), (q_23, .inr (0, [.ref (u_24 0), .ref (u_24 1), .ref (u_24 2), .ref (u_24 3), .ref (u_24 4), .int 0, .int 0, .int 0, .int 0])), ((u_24 0), .inl (E 0, 9, .inl (fun _ => 0))), (q_44, .inr (5, sF u_45)), (q_49, .inr (5, sF u_50)), (q_54, .inr (5, sF u_55)), (q_59, .inr (5, [.null, .null, .null, .null, .null, .null, .null, .int 0, .int 0, .int 0, .int 0]))] H := hP
              have hD : va_D A [(h0, .inr (8, [.ref q_1, .ref q_2, .ref q_3, .ref q_4, .ref q_5, .ref q_6, .ref q_7, .ref q_11, .ref q_15, .ref q_19, .ref q_23, .ref q_27, .ref q_31, .int 0])), (q_1, .inl (E 0, 400, .inl gf138_0)), (q_2, .inl (E 0, 16, .inl gf161_0)), (q_3, .inl (E 0, 16, .inl (fun _ => 0))), (q_4, .inl (E 3, 16, .inr (.inr (.inr (.inr (fun _ => none)))))), (q_5, .inl (E 4, 5, .inr (.inr (.inr (.inr (va_up (va_up (va_up (fun _ => none) (0 : Int32).toNatClampNeg (some q_44)) (1 : Int32).toNatClampNeg (some q_49)) (2 : Int32).toNatClampNeg (some q_54))))))), (q_7, .inr (2, [.ref (u_8 0), .ref (u_8 1), .ref (u_8 2), .ref (u_8 3), .ref (u_8 4), .int 0])), ((u_8 0), .inl (E 0, 60, .inl (fun _ => 0))), ((u_8 1), .inl (E 0, 60, .inl (fun _ => 0))), ((u_8 2), .inl (E 0, 60, .inl (fun _ => 0))), ((u_8 3), .inl (E 0, 60, .inl (fun _ => 0))), ((u_8 4), .inl (E 0, 60, .inl (fun _ => 0))), (q_19, .inr (6, [.ref (u_20 0), .int 0, .ref (u_20 1), .ref (E 5), .int 0, .int 0, .int 0, .int 0])), ((u_20 0), .inl (E 0, 120, .inl (fun _ => 0))), ((u_20 1), .inr (4, [.ref (u_20 2), .ref (u_20 3), .ref (u_20 4), .int 0])), (q_23, .inr (0, [.ref (u_24 0), .ref (u_24 1), .ref (u_24 2), .ref (u_24 3), .ref (u_24 4), .int 0, .int 0, .int 0, .int 0])), ((u_24 0), .inl (E 0, 9, .inl (fun _ => 0))), (q_44, .inr (5, sF u_45)), (q_49, .inr (5, sF u_50)), (q_54, .inr (5, sF u_55)), (q_59, .inr (5, [.null, .null, .null, .null, .null, .null, .null, .int 0, .int 0, .int 0, .int 0]))] := hD
              refine W.widen (k := 62) (n := 2798) (Nat.le_of_ble_eq_true rfl) (Nat.le_of_ble_eq_true rfl) ?_
              refine lv_dup hx hb dX8_init_196 rfl ?_
              have hPc := hP.sub (ws' := [(q_59, .inr (5, [.null, .null, .null, .null, .null, .null, .null, .int 0, .int 0, .int 0, .int 0]))]) [20] rfl
              have hDc := hD.sub (ws' := [(q_59, .inr (5, [.null, .null, .null, .null, .null, .null, .null, .int 0, .int 0, .int 0, .int 0]))]) [20] (by decide) rfl
              refine aft_v (runMN (rest := [.ref q_59, .int 3, .ref q_5]) (As := []) hx hb hml hown htb hK (c_X5_init l D E q_59 _ ) ok_X5_init rfl (show Cond.methodLinkNest RX8 83 yX5_init RX8 ∈ nestW by decide +kernel) k_225 k_8 k_226 ⟨(Nat.le_of_ble_eq_true rfl), (Nat.le_of_ble_eq_true rfl)⟩ ⟨(Nat.le_of_ble_eq_true rfl), (Nat.le_of_ble_eq_true rfl)⟩ hl.1 (Nat.le_of_ble_eq_true rfl) rfl rfl dX8_init_197 hPc hDc) hP hD hS hA [20] [0, 1, 2, 3, 4, 5, 6, 7, 8, 9, 10, 11, 12, 13, 14, 15, 16, 17, 18, 19] (wr := [(h0, .inr (8, [.ref q_1, .ref q_2, .ref q_3, .ref q_4, .ref q_5, .ref q_6, .ref q_7, .ref q_11, .ref q_15, .ref q_19, .ref q_23, .ref q_27, .ref q_31, .int 0])), (q_1, .inl (E 0, 400, .inl gf138_0)), (q_2, .inl (E 0, 16, .inl gf161_0)), (q_3, .inl (E 0, 16, .inl (fun _ => 0))), (q_4, .inl (E 3, 16, .inr (.inr (.inr (.inr (fun _ => none)))))), (q_5, .inl (E 4, 5, .inr (.inr (.inr (.inr (va_up (va_up (va_up (fun _ => none) (0 : Int32).toNatClampNeg (some q_44)) (1 : Int32).toNatClampNeg (some q_49)) (2 : Int32).toNatClampNeg (some q_54))))))), (q_7, .inr (2, [.ref (u_8 0), .ref (u_8 1), .ref (u_8 2), .ref (u_8 3), .ref (u_8 4), .int 0])), ((u_8 0), .inl (E 0, 60, .inl (fun _ => 0))), ((u_8 1), .inl (E 0, 60, .inl (fun _ => 0))), ((u_8 2), .inl (E 0, 60, .inl (fun _ => 0))), ((u_8 3), .inl (E 0, 60, .inl (fun _ => 0))), ((u_8 4), .inl (E 0, 60, .inl (fun _ => 0))), (q_19, .inr (6, [.ref (u_20 0), .int 0, .ref (u_20 1), .ref (E 5), .int 0, .int 0, .int 0, .int 0])), ((u_20 0), .inl (E 0, 120, .inl (fun _ => 0))), ((u_20 1), .inr (4, [.ref (u_20 2), .ref (u_20 3), .ref (u_20 4), .int 0])), (q_23, .inr (0, [.ref (u_24 0), .ref (u_24 1), .ref (u_24 2), .ref (u_24 3), .ref (u_24 4), .int 0, .int 0, .int 0, .int 0])), ((u_24 0), .inl (E 0, 9, .inl (fun _ => 0))), (q_44, .inr (5, sF u_45)), (q_49, .inr (5, sF u_50)), (q_54, .inr (5, sF u_55))]) rfl rfl (by decide) (by decide) (fun u_60 H locs hw_61 hP hD hS => ?_)
              clear hPc hDc
              have hP : va_P D vwCl [(h0, .inr (8, [.ref q_1, .ref q_2, .ref q_3, .ref q_4, .ref q_5, .ref q_6, .ref q_7, .ref q_11, .ref q_15, .ref q_19, .ref q_23, .ref q_27, .ref q_31, .int 0])), (q_1, .inl (E 0, 400, .inl gf138_0)), (q_2, .inl (E 0, 16, .inl gf161_0)), (q_3, .inl (E 0, 16, .inl (fun _ => 0))), (q_4, .inl (E 3, 16, .inr (.inr (.inr (.inr (fun _ => none)))))), (q_5, .inl (E 4, 5, .inr (.inr (.inr (.inr (va_up (va_up (va_up (fun _ => none) (0 : Int32).toNatClampNeg (some q_44)) (1 : Int32).toNatClampNeg (some q_49)) (2 : Int32).toNatClampNeg (some q_54))))))), (q_7, .inr (2, [.ref (u_8 0), .ref (u_8 1), .ref (u_8 2), .ref (u_8 3), .ref (u_8 4), .int 0])), ((u_8 0), .inl (E 0, 60, .inl (fun _ => 0))), ((u_8 1), .inl (E 0, 60, .inl (fun _ => 0))), ((u_8 2), .inl (E 0, 60, .inl (fun _ => 0))), ((u_8 3), .inl (E 0, 60, .inl (fun _ => 0))), ((u_8 4), .inl (E 0, 60, .inl (fun _ => 0))), (q_19, .inr (6, [.ref (u_20 0), .int 0, .ref (u_20 1), .ref (E 5), .int 0, .int 0, .int 0, .int 0])), ((u_20 0), .inl (E 0, 120, .inl (fun _ => 0))), ((u_20 1), .inr (4, [.ref (u_20 2), .ref (u_20 3), .ref (u_20 4), .int 0])), (q_23, .inr (0, [.ref (u_24 0), .ref (u_24 1), .ref (u_24 2), .ref (u_24 3), .ref (u_24 4), .int 0, .int 0, .int 0, .int 0])), ((u_24 0), .inl (E 0, 9, .inl (fun _ => 0))), (q_44, .inr (5, sF u_45)), (q_49, .inr (5, sF u_50)), (q_54, .inr (5, sF u_55)), (q_59, .inr (5, sF u_60))] H := hP
              have hD : va_D A [(h0, .inr (8, [.ref q_1, .ref q_2, .ref q_3, .ref q_4, .ref q_5, .ref q_6, .ref q_7, .ref q_11, .ref q_15, .ref q_19, .ref q_23, .ref q_27, .ref q_31, .int 0])), (q_1, .inl (E 0, 400, .inl gf138_0)), (q_2, .inl (E 0, 16, .inl gf161_0)), (q_3, .inl (E 0, 16, .inl (fun _ => 0))), (q_4, .inl (E 3, 16, .inr (.inr (.inr (.inr (fun _ => none)))))), (q_5, .inl (E 4, 5, .inr (.inr (.inr (.inr (va_up (va_up (va_up (fun _ => none) (0 : Int32).toNatClampNeg (some q_44)) (1 : Int32).toNatClampNeg (some q_49)) (2 : Int32).toNatClampNeg (some q_54))))))), (q_7, .inr (2, [.ref (u_8 0), .ref (u_8 1), .ref (u_8 2), .ref (u_8 3), .ref (u_8 4), .int 0])), ((u_8 0), .inl (E 0, 60, .inl (fun _ => 0))), ((u_8 1), .inl (E 0, 60, .inl (fun _ => 0))), ((u_8 2), .inl (E 0, 60, .inl (fun _ => 0))), ((u_8 3), .inl (E 0, 60, .inl (fun _ => 0))), ((u_8 4), .inl (E 0, 60, .inl (fun _ => 0))), (q_19, .inr (6, [.ref (u_20 0), .int 0, .ref (u_20 1), .ref (E 5), .int 0, .int 0, .int 0, .int 0])), ((u_20 0), .inl (E 0, 120, .inl (fun _ => 0))), ((u_20 1), .inr (4, [.ref (u_20 2), .ref (u_20 3), .ref (u_20 4), .int 0])), (q_23, .inr (0, [.ref (u_24 0), .ref (u_24 1), .ref (u_24 2), .ref (u_24 3), .ref (u_24 4), .int 0, .int 0, .int 0, .int 0])), ((u_24 0), .inl (E 0, 9, .inl (fun _ => 0))), (q_44, .inr (5, sF u_45)), (q_49, .inr (5, sF u_50)), (q_54, .inr (5, sF u_55)), (q_59, .inr (5, sF u_60))] := hD
              refine W.widen (k := 69) (n := 2973) (Nat.le_of_ble_eq_true rfl) (Nat.le_of_ble_eq_true rfl) ?_
              refine va_astq hx hb hK.1 hP hD hS 5 4 20 5 rfl rfl rfl rfl (g_in t_3 (by decide) (by decide)) dX8_init_200 (fun H locs hP hD hS => ?_)
              have hP : va_P D vwCl [(h0, .inr (8, [.ref q_1, .ref q_2, .ref q_3, .ref q_4, .ref q_5, .ref q_6, .ref q_7, .ref q_11, .ref q_15, .ref q_19, .ref q_23, .ref q_27, .ref q_31, .int 0])), (q_1, .inl (E 0, 400, .inl gf138_0)), (q_2, .inl (E 0, 16, .inl gf161_0)), (q_3, .inl (E 0, 16, .inl (fun _ => 0))), (q_4, .inl (E 3, 16, .inr (.inr (.inr (.inr (fun _ => none)))))), (q_5, .inl (E 4, 5, .inr (.inr (.inr (.inr (va_up (va_up (va_up (va_up (fun _ => none) (0 : Int32).toNatClampNeg (some q_44)) (1 : Int32).toNatClampNeg (some q_49)) (2 : Int32).toNatClampNeg (some q_54)) (3 : Int32).toNatClampNeg (some q_59))))))), (q_7, .inr (2, [.ref (u_8 0), .ref (u_8 1), .ref (u_8 2), .ref (u_8 3), .ref (u_8 4), .int 0])), ((u_8 0), .inl (E 0, 60, .inl (fun _ => 0))), ((u_8 1), .inl (E 0, 60, .inl (fun _ => 0))), ((u_8 2), .inl (E 0, 60, .inl (fun _ => 0))), ((u_8 3), .inl (E 0, 60, .inl (fun _ => 0))), ((u_8 4), .inl (E 0, 60, .inl (fun _ => 0))), (q_19, .inr (6, [.ref (u_20 0), .int 0, .ref (u_20 1), .ref (E 5), .int 0, .int 0, .int 0, .int 0])), ((u_20 0), .inl (E 0, 120, .inl (fun _ => 0))), ((u_20 1), .inr (4, [.ref (u_20 2), .ref (u_20 3), .ref (u_20 4), .int 0])), (q_23, .inr (0, [.ref (u_24 0), .ref (u_24 1), .ref (u_24 2), .ref (u_24 3), .ref (u_24 4), .int 0, .int 0, .int 0, .int 0])), ((u_24 0), .inl (E 0, 9, .inl (fun _ => 0))), (q_44, .inr (5, sF u_45)), (q_49, .inr (5, sF u_50)), (q_54, .inr (5, sF u_55)), (q_59, .inr (5, sF u_60))] H := hP
              have hD : va_D A [(h0, .inr (8, [.ref q_1, .ref q_2, .ref q_3, .ref q_4, .ref q_5, .ref q_6, .ref q_7, .ref q_11, .ref q_15, .ref q_19, .ref q_23, .ref q_27, .ref q_31, .int 0])), (q_1, .inl (E 0, 400, .inl gf138_0)), (q_2, .inl (E 0, 16, .inl gf161_0)), (q_3, .inl (E 0, 16, .inl (fun _ => 0))), (q_4, .inl (E 3, 16, .inr (.inr (.inr (.inr (fun _ => none)))))), (q_5, .inl (E 4, 5, .inr (.inr (.inr (.inr (va_up (va_up (va_up (va_up (fun _ => none) (0 : Int32).toNatClampNeg (some q_44)) (1 : Int32).toNatClampNeg (some q_49)) (2 : Int32).toNatClampNeg (some q_54)) (3 : Int32).toNatClampNeg (some q_59))))))), (q_7, .inr (2, [.ref (u_8 0), .ref (u_8 1), .ref (u_8 2), .ref (u_8 3), .ref (u_8 4), .int 0])), ((u_8 0), .inl (E 0, 60, .inl (fun _ => 0))), ((u_8 1), .inl (E 0, 60, .inl (fun _ => 0))), ((u_8 2), .inl (E 0, 60, .inl (fun _ => 0))), ((u_8 3), .inl (E 0, 60, .inl (fun _ => 0))), ((u_8 4), .inl (E 0, 60, .inl (fun _ => 0))), (q_19, .inr (6, [.ref (u_20 0), .int 0, .ref (u_20 1), .ref (E 5), .int 0, .int 0, .int 0, .int 0])), ((u_20 0), .inl (E 0, 120, .inl (fun _ => 0))), ((u_20 1), .inr (4, [.ref (u_20 2), .ref (u_20 3), .ref (u_20 4), .int 0])), (q_23, .inr (0, [.ref (u_24 0), .ref (u_24 1), .ref (u_24 2), .ref (u_24 3), .ref (u_24 4), .int 0, .int 0, .int 0, .int 0])), ((u_24 0), .inl (E 0, 9, .inl (fun _ => 0))), (q_44, .inr (5, sF u_45)), (q_49, .inr (5, sF u_50)), (q_54, .inr (5, sF u_55)), (q_59, .inr (5, sF u_60))] := hD
              refine lv_iinc (v := 4) (lv' := [(1, .int 4), (0, .ref h0)]) hx hb dX8_init_201 hl (k := 0) rfl (by decide) (by decide) rfl (fun ls hl => ?_)
              refine lv_goto (tgt := 183) hx hb dX8_init_204 (by decide) ?_
              refine lv_iload_n hx hb dX8_init_183 rfl (lv_at hl 0 rfl) ?_
              refine lv_iconst (v := 5) hx hb dX8_init_184 (by decide) ?_
              refine lv_icmp_ge (tgt := 207) hx hb dX8_init_185 (by decide) (fun c_63 => absurd c_63 (by decide)) (fun c_63 => ?_)
              refine lv_aload_n hx hb dX8_init_188 rfl (lv_at hl 1 rfl) ?_
              refine va_get (D := D) (ci := 8) (v := .ref q_5) (C := RX8) (T := TX8) (N := 14) hx hb htb iX8 hown hK.1 hP 0 rfl rfl 4 (by decide) (htb _ k_276) (fun _ h9 => h9) rfl dX8_init_189 ?_
              refine lv_iload_n hx hb dX8_init_192 rfl (lv_at hl 0 rfl) ?_
              refine va_new (ci := 5) (fs := [.null, .null, .null, .null, .null, .null, .null, .int 0, .int 0, .int 0, .int 0]) (C := RX5) (T := TX5) (N := 11) hx hb htb iX5 tyX5 tyX5_ok hown (htb _ k_26) (htb _ k_223) (htb _ k_8) hK.1 hP hD hS hA rfl (by decide) (Nat.le_of_ble_eq_true rfl) (Nat.le_of_ble_eq_true rfl) dX8_init_193 (fun q_64 H hP hD hS => ?_)
              have hP : va_P D vwCl [(h0, .inr (8, [.ref q_1, .ref q_2, .ref q_3, .ref q_4, .ref q_5, .ref q_6, .ref q_7, .ref q_11, .ref q_15, .ref q_19, .ref q_23, .ref q_27, .ref q_31, .int 0])), (q_1, .inl (E 0, 400, .inl gf138_0)), (q_2, .inl (E 0, 16, .inl gf161_0)), (q_3, .inl (E 0, 16, .inl (fun _ => 0))), (q_4, .inl (E 3, 16, .inr (.inr (.inr (.inr (fun _ => none)))))), (q_5, .inl (E 4, 5, .inr (.inr (.inr (.inr (va_up (va_up (va_up (va_up (fun _ => none) (0 : Int32).toNatClampNeg (some q_44)) (1 : Int32).toNatClampNeg (some q_49)) (2 : Int32).toNatClampNeg (some q_54)) (3 : Int32).toNatClampNeg (some q_59))))))), (q_7, .inr (2, [.ref (u_8 0), .ref (u_8 1), .ref (u_8 2), .ref (u_8 3), .ref (u_8 4), .int 0])), ((u_8 0), .inl (E 0, 60, .inl (fun _ => 0))), ((u_8 1), .inl (E 0, 60, .inl (fun _ => 0))), ((u_8 2), .inl (E 0, 60, .inl (fun _ => 0))), ((u_8 3), .inl (E 0, 60, .inl (fun _ => 0))), ((u_8 4), .inl (E 0, 60, .inl (fun _ => 0))), (q_19, .inr (6, [.ref (u_20 0), .int 0, .ref (u_20 1), .ref (E 5), .int 0, .int 0, .int 0, .int 0])), ((u_20 0), .inl (E 0, 120, .inl (fun _ => 0))), ((u_20 1), .inr (4, [.ref (u_20 2), .ref (u_20 3), .ref (u_20 4), .int 0])), (q_23, .inr (0, [.ref (u_24 0), .ref (u_24 1), .ref (u_24 2), .ref (u_24 3), .ref (u_24 4), .int 0, .int 0, .int 0, .int 0])), ((u_24 0), .inl (E 0, 9, .inl (fun _ => 0))), (q_44, .inr (5, sF u_45)), (q_49, .inr (5, sF u_50)), (q_54, .inr (5, sF u_55)), (q_59, .inr (5, sF u_60)), (q_64, .inr (5, [.null, .null, .null, .null, .null, .null, .null, .int 0, .int 0, .int 0, .int 0]))] H := hP
              have hD : va_D A [(h0, .inr (8, [.ref q_1, .ref q_2, .ref q_3, .ref q_4, .ref q_5, .ref q_6, .ref q_7, .ref q_11, .ref q_15, .ref q_19, .ref q_23, .ref q_27, .ref q_31, .int 0])), (q_1, .inl (E 0, 400, .inl gf138_0)), (q_2, .inl (E 0, 16, .inl gf161_0)), (q_3, .inl (E 0, 16, .inl (fun _ => 0))), (q_4, .inl (E 3, 16, .inr (.inr (.inr (.inr (fun _ => none)))))), (q_5, .inl (E 4, 5, .inr (.inr (.inr (.inr (va_up (va_up (va_up (va_up (fun _ => none) (0 : Int32).toNatClampNeg (some q_44)) (1 : Int32).toNatClampNeg (some q_49)) (2 : Int32).toNatClampNeg (some q_54)) (3 : Int32).toNatClampNeg (some q_59))))))), (q_7, .inr (2, [.ref (u_8 0), .ref (u_8 1), .ref (u_8 2), .ref (u_8 3), .ref (u_8 4), .int 0])), ((u_8 0), .inl (E 0, 60, .inl (fun _ => 0))), ((u_8 1), .inl (E 0, 60, .inl (fun _ => 0))), ((u_8 2), .inl (E 0, 60, .inl (fun _ => 0))), ((u_8 3), .inl (E 0, 60, .inl (fun _ => 0))), ((u_8 4), .inl (E 0, 60, .inl (fun _ => 0))), (q_19, .inr (6, [.ref (u_20 0), .int 0, .ref (u_20 1), .ref (E 5), .int 0, .int 0, .int 0, .int 0])), ((u_20 0), .inl (E 0, 120, .inl (fun _ => 0))), ((u_20 1), .inr (4, [.ref (u_20 2), .ref (u_20 3), .ref (u_20 4), .int 0])), (q_23, .inr (0, [.ref (u_24 0), .ref (u_24 1), .ref (u_24 2), .ref (u_24 3), .ref (u_24 4), .int 0, .int 0, .int 0, .int 0])), ((u_24 0), .inl (E 0, 9, .inl (fun _ => 0))), (q_44, .inr (5, sF u_45)), (q_49, .inr (5, sF u_50)), (q_54, .inr (5, sF u_55)), (q_59, .inr (5, sF u_60)), (q_64, .inr (5, [.null, .null, .null, .null, .null, .null, .null, .int 0, .int 0, .int 0, .int 0]))] := hD
              refine W.widen (k := 70) (n := 2984) (Nat.le_of_ble_eq_true rfl) (Nat.le_of_ble_eq_true rfl) ?_
              refine lv_dup hx hb dX8_init_196 rfl ?_
              have hPc := hP.sub (ws' := [(q_64, .inr (5, [.null, .null, .null, .null, .null, .null, .null, .int 0, .int 0, .int 0, .int 0]))]) [21] rfl
              have hDc := hD.sub (ws' := [(q_64, .inr (5, [.null, .null, .null, .null, .null, .null, .null, .int 0, .int 0, .int 0, .int 0]))]) [21] (by decide) rfl
              refine aft_v (runMN (rest := [.ref q_64, .int 4, .ref q_5]) (As := []) hx hb hml hown htb hK (c_X5_init l D E q_64 _ ) ok_X5_init rfl (show Cond.methodLinkNest RX8 83 yX5_init RX8 ∈ nestW by decide +kernel) k_225 k_8 k_226 ⟨(Nat.le_of_ble_eq_true rfl), (Nat.le_of_ble_eq_true rfl)⟩ ⟨(Nat.le_of_ble_eq_true rfl), (Nat.le_of_ble_eq_true rfl)⟩ hl.1 (Nat.le_of_ble_eq_true rfl) rfl rfl dX8_init_197 hPc hDc) hP hD hS hA [21] [0, 1, 2, 3, 4, 5, 6, 7, 8, 9, 10, 11, 12, 13, 14, 15, 16, 17, 18, 19, 20] (wr := [(h0, .inr (8, [.ref q_1, .ref q_2, .ref q_3, .ref q_4, .ref q_5, .ref q_6, .ref q_7, .ref q_11, .ref q_15, .ref q_19, .ref q_23, .ref q_27, .ref q_31, .int 0])), (q_1, .inl (E 0, 400, .inl gf138_0)), (q_2, .inl (E 0, 16, .inl gf161_0)), (q_3, .inl (E 0, 16, .inl (fun _ => 0))), (q_4, .inl (E 3, 16, .inr (.inr (.inr (.inr (fun _ => none)))))), (q_5, .inl (E 4, 5, .inr (.inr (.inr (.inr (va_up (va_up (va_up (va_up (fun _ => none) (0 : Int32).toNatClampNeg (some q_44)) (1 : Int32).toNatClampNeg (some q_49)) (2 : Int32).toNatClampNeg (some q_54)) (3 : Int32).toNatClampNeg (some q_59))))))), (q_7, .inr (2, [.ref (u_8 0), .ref (u_8 1), .ref (u_8 2), .ref (u_8 3), .ref (u_8 4), .int 0])), ((u_8 0), .inl (E 0, 60, .inl (fun _ => 0))), ((u_8 1), .inl (E 0, 60, .inl (fun _ => 0))), ((u_8 2), .inl (E 0, 60, .inl (fun _ => 0))), ((u_8 3), .inl (E 0, 60, .inl (fun _ => 0))), ((u_8 4), .inl (E 0, 60, .inl (fun _ => 0))), (q_19, .inr (6, [.ref (u_20 0), .int 0, .ref (u_20 1), .ref (E 5), .int 0, .int 0, .int 0, .int 0])), ((u_20 0), .inl (E 0, 120, .inl (fun _ => 0))), ((u_20 1), .inr (4, [.ref (u_20 2), .ref (u_20 3), .ref (u_20 4), .int 0])), (q_23, .inr (0, [.ref (u_24 0), .ref (u_24 1), .ref (u_24 2), .ref (u_24 3), .ref (u_24 4), .int 0, .int 0, .int 0, .int 0])), ((u_24 0), .inl (E 0, 9, .inl (fun _ => 0))), (q_44, .inr (5, sF u_45)), (q_49, .inr (5, sF u_50)), (q_54, .inr (5, sF u_55)), (q_59, .inr (5, sF u_60))]) rfl rfl (by decide) (by decide) (fun u_65 H locs hw_66 hP hD hS => ?_)
              clear hPc hDc
              have hP : va_P D vwCl [(h0, .inr (8, [.ref q_1, .ref q_2, .ref q_3, .ref q_4, .ref q_5, .ref q_6, .ref q_7, .ref q_11, .ref q_15, .ref q_19, .ref q_23, .ref q_27, .ref q_31, .int 0])), (q_1, .inl (E 0, 400, .inl gf138_0)), (q_2, .inl (E 0, 16, .inl gf161_0)), (q_3, .inl (E 0, 16, .inl (fun _ => 0))), (q_4, .inl (E 3, 16, .inr (.inr (.inr (.inr (fun _ => none)))))), (q_5, .inl (E 4, 5, .inr (.inr (.inr (.inr (va_up (va_up (va_up (va_up (fun _ => none) (0 : Int32).toNatClampNeg (some q_44)) (1 : Int32).toNatClampNeg (some q_49)) (2 : Int32).toNatClampNeg (some q_54)) (3 : Int32).toNatClampNeg (some q_59))))))), (q_7, .inr (2, [.ref (u_8 0), .ref (u_8 1), .ref (u_8 2), .ref (u_8 3), .ref (u_8 4), .int 0])), ((u_8 0), .inl (E 0, 60, .inl (fun _ => 0))), ((u_8 1), .inl (E 0, 60, .inl (fun _ => 0))), ((u_8 2), .inl (E 0, 60, .inl (fun _ => 0))), ((u_8 3), .inl (E 0, 60, .inl (fun _ => 0))), ((u_8 4), .inl (E 0, 60, .inl (fun _ => 0))), (q_19, .inr (6, [.ref (u_20 0), .int 0, .ref (u_20 1), .ref (E 5), .int 0, .int 0, .int 0, .int 0])), ((u_20 0), .inl (E 0, 120, .inl (fun _ => 0))), ((u_20 1), .inr (4, [.ref (u_20 2), .ref (u_20 3), .ref (u_20 4), .int 0])), (q_23, .inr (0, [.ref (u_24 0), .ref (u_24 1), .ref (u_24 2), .ref (u_24 3), .ref (u_24 4), .int 0, .int 0, .int 0, .int 0])), ((u_24 0), .inl (E 0, 9, .inl (fun _ => 0))), (q_44, .inr (5, sF u_45)), (q_49, .inr (5, sF u_50)), (q_54, .inr (5, sF u_55)), (q_59, .inr (5, sF u_60)), (q_64, .inr (5, sF u_65))] H := hP
              have hD : va_D A [(h0, .inr (8, [.ref q_1, .ref q_2, .ref q_3, .ref q_4, .ref q_5, .ref q_6, .ref q_7, .ref q_11, .ref q_15, .ref q_19, .ref q_23, .ref q_27, .ref q_31, .int 0])), (q_1, .inl (E 0, 400, .inl gf138_0)), (q_2, .inl (E 0, 16, .inl gf161_0)), (q_3, .inl (E 0, 16, .inl (fun _ => 0))), (q_4, .inl (E 3, 16, .inr (.inr (.inr (.inr (fun _ => none)))))), (q_5, .inl (E 4, 5, .inr (.inr (.inr (.inr (va_up (va_up (va_up (va_up (fun _ => none) (0 : Int32).toNatClampNeg (some q_44)) (1 : Int32).toNatClampNeg (some q_49)) (2 : Int32).toNatClampNeg (some q_54)) (3 : Int32).toNatClampNeg (some q_59))))))), (q_7, .inr (2, [.ref (u_8 0), .ref (u_8 1), .ref (u_8 2), .ref (u_8 3), .ref (u_8 4), .int 0])), ((u_8 0), .inl (E 0, 60, .inl (fun _ => 0))), ((u_8 1), .inl (E 0, 60, .inl (fun _ => 0))), ((u_8 2), .inl (E 0, 60, .inl (fun _ => 0))), ((u_8 3), .inl (E 0, 60, .inl (fun _ => 0))), ((u_8 4), .inl (E 0, 60, .inl (fun _ => 0))), (q_19, .inr (6, [.ref (u_20 0), .int 0, .ref (u_20 1), .ref (E 5), .int 0, .int 0, .int 0, .int 0])), ((u_20 0), .inl (E 0, 120, .inl (fun _ => 0))), ((u_20 1), .inr (4, [.ref (u_20 2), .ref (u_20 3), .ref (u_20 4), .int 0])), (q_23, .inr (0, [.ref (u_24 0), .ref (u_24 1), .ref (u_24 2), .ref (u_24 3), .ref (u_24 4), .int 0, .int 0, .int 0, .int 0])), ((u_24 0), .inl (E 0, 9, .inl (fun _ => 0))), (q_44, .inr (5, sF u_45)), (q_49, .inr (5, sF u_50)), (q_54, .inr (5, sF u_55)), (q_59, .inr (5, sF u_60)), (q_64, .inr (5, sF u_65))] := hD
              refine W.widen (k := 77) (n := 3159) (Nat.le_of_ble_eq_true rfl) (Nat.le_of_ble_eq_true rfl) ?_
              refine va_astq hx hb hK.1 hP hD hS 5 4 21 5 rfl rfl rfl rfl (g_in t_4 (by decide) (by decide)) dX8_init_200 (fun H locs hP hD hS => ?_)
              have hP : va_P D vwCl [(h0, .inr (8, [.ref q_1, .ref q_2, .ref q_3, .ref q_4, .ref q_5, .ref q_6, .ref q_7, .ref q_11, .ref q_15, .ref q_19, .ref q_23, .ref q_27, .ref q_31, .int 0])), (q_1, .inl (E 0, 400, .inl gf138_0)), (q_2, .inl (E 0, 16, .inl gf161_0)), (q_3, .inl (E 0, 16, .inl (fun _ => 0))), (q_4, .inl (E 3, 16, .inr (.inr (.inr (.inr (fun _ => none)))))), (q_5, .inl (E 4, 5, .inr (.inr (.inr (.inr (va_up (va_up (va_up (va_up (va_up (fun _ => none) (0 : Int32).toNatClampNeg (some q_44)) (1 : Int32).toNatClampNeg (some q_49)) (2 : Int32).toNatClampNeg (some q_54)) (3 : Int32).toNatClampNeg (some q_59)) (4 : Int32).toNatClampNeg (some q_64))))))), (q_7, .inr (2, [.ref (u_8 0), .ref (u_8 1), .ref (u_8 2), .ref (u_8 3), .ref (u_8 4), .int 0])), ((u_8 0), .inl (E 0, 60, .inl (fun _ => 0))), ((u_8 1), .inl (E 0, 60, .inl (fun _ => 0))), ((u_8 2), .inl (E 0, 60, .inl (fun _ => 0))), ((u_8 3), .inl (E 0, 60, .inl (fun _ => 0))), ((u_8 4), .inl (E 0, 60, .inl (fun _ => 0))), (q_19, .inr (6, [.ref (u_20 0), .int 0, .ref (u_20 1), .ref (E 5), .int 0, .int 0, .int 0, .int 0])), ((u_20 0), .inl (E 0, 120, .inl (fun _ => 0))), ((u_20 1), .inr (4, [.ref (u_20 2), .ref (u_20 3), .ref (u_20 4), .int 0])), (q_23, .inr (0, [.ref (u_24 0), .ref (u_24 1), .ref (u_24 2), .ref (u_24 3), .ref (u_24 4), .int 0, .int 0, .int 0, .int 0])), ((u_24 0), .inl (E 0, 9, .inl (fun _ => 0))), (q_44, .inr (5, sF u_45)), (q_49, .inr (5, sF u_50)), (q_54, .inr (5, sF u_55)), (q_59, .inr (5, sF u_60)), (q_64, .inr (5, sF u_65))] H := hP
              have hD : va_D A [(h0, .inr (8, [.ref q_1, .ref q_2, .ref q_3, .ref q_4, .ref q_5, .ref q_6, .ref q_7, .ref q_11, .ref q_15, .ref q_19, .ref q_23, .ref q_27, .ref q_31, .int 0])), (q_1, .inl (E 0, 400, .inl gf138_0)), (q_2, .inl (E 0, 16, .inl gf161_0)), (q_3, .inl (E 0, 16, .inl (fun _ => 0))), (q_4, .inl (E 3, 16, .inr (.inr (.inr (.inr (fun _ => none)))))), (q_5, .inl (E 4, 5, .inr (.inr (.inr (.inr (va_up (va_up (va_up (va_up (va_up (fun _ => none) (0 : Int32).toNatClampNeg (some q_44)) (1 : Int32).toNatClampNeg (some q_49)) (2 : Int32).toNatClampNeg (some q_54)) (3 : Int32).toNatClampNeg (some q_59)) (4 : Int32).toNatClampNeg (some q_64))))))), (q_7, .inr (2, [.ref (u_8 0), .ref (u_8 1), .ref (u_8 2), .ref (u_8 3), .ref (u_8 4), .int 0])), ((u_8 0), .inl (E 0, 60, .inl (fun _ => 0))), ((u_8 1), .inl (E 0, 60, .inl (fun _ => 0))), ((u_8 2), .inl (E 0, 60, .inl (fun _ => 0))), ((u_8 3), .inl (E 0, 60, .inl (fun _ => 0))), ((u_8 4), .inl (E 0, 60, .inl (fun _ => 0))), (q_19, .inr (6, [.ref (u_20 0), .int 0, .ref (u_20 1), .ref (E 5), .int 0, .int 0, .int 0, .int 0])), ((u_20 0), .inl (E 0, 120, .inl (fun _ => 0))), ((u_20 1), .inr (4, [.ref (u_20 2), .ref (u_20 3), .ref (u_20 4), .int 0])), (q_23, .inr (0, [.ref (u_24 0), .ref (u_24 1), .ref (u_24 2), .ref (u_24 3), .ref (u_24 4), .int 0, .int 0, .int 0, .int 0])), ((u_24 0), .inl (E 0, 9, .inl (fun _ => 0))), (q_44, .inr (5, sF u_45)), (q_49, .inr (5, sF u_50)), (q_54, .inr (5, sF u_55)), (q_59, .inr (5, sF u_60)), (q_64, .inr (5, sF u_65))] := hD
              refine lv_iinc (v := 5) (lv' := [(1, .int 5), (0, .ref h0)]) hx hb dX8_init_201 hl (k := 0) rfl (by decide) (by decide) rfl (fun ls hl => ?_)
              refine lv_goto (tgt := 183) hx hb dX8_init_204 (by decide) ?_
              refine lv_iload_n hx hb dX8_init_183 rfl (lv_at hl 0 rfl) ?_
              refine lv_iconst (v := 5) hx hb dX8_init_184 (by decide) ?_
              refine lv_icmp_ge (tgt := 207) hx hb dX8_init_185 (by decide) (fun c_68 => ?_) (fun c_68 => absurd (by decide) c_68)
              have hD := hD.set (e := .inl (E 0, 16, .inl (fun _ => -5))) (p := 2) (ws := [(h0, .inr (8, [.ref q_1, .ref q_2, .ref q_3, .ref q_4, .ref q_5, .ref q_6, .ref q_7, .ref q_11, .ref q_15, .ref q_19, .ref q_23, .ref q_27, .ref q_31, .int 0])), (q_1, .inl (E 0, 400, .inl gf138_0)), (q_2, .inl (E 0, 16, .inl gf161_0)), (q_3, .inl (E 0, 16, .inl (fun _ => 0))), (q_4, .inl (E 3, 16, .inr (.inr (.inr (.inr (fun _ => none)))))), (q_5, .inl (E 4, 5, .inr (.inr (.inr (.inr (va_up (va_up (va_up (va_up (va_up (fun _ => none) (0 : Int32).toNatClampNeg (some q_44)) (1 : Int32).toNatClampNeg (some q_49)) (2 : Int32).toNatClampNeg (some q_54)) (3 : Int32).toNatClampNeg (some q_59)) (4 : Int32).toNatClampNeg (some q_64))))))), (q_7, .inr (2, [.ref (u_8 0), .ref (u_8 1), .ref (u_8 2), .ref (u_8 3), .ref (u_8 4), .int 0])), ((u_8 0), .inl (E 0, 60, .inl (fun _ => 0))), ((u_8 1), .inl (E 0, 60, .inl (fun _ => 0))), ((u_8 2), .inl (E 0, 60, .inl (fun _ => 0))), ((u_8 3), .inl (E 0, 60, .inl (fun _ => 0))), ((u_8 4), .inl (E 0, 60, .inl (fun _ => 0))), (q_19, .inr (6, [.ref (u_20 0), .int 0, .ref (u_20 1), .ref (E 5), .int 0, .int 0, .int 0, .int 0])), ((u_20 0), .inl (E 0, 120, .inl (fun _ => 0))), ((u_20 1), .inr (4, [.ref (u_20 2), .ref (u_20 3), .ref (u_20 4), .int 0])), (q_23, .inr (0, [.ref (u_24 0), .ref (u_24 1), .ref (u_24 2), .ref (u_24 3), .ref (u_24 4), .int 0, .int 0, .int 0, .int 0])), ((u_24 0), .inl (E 0, 9, .inl (fun _ => 0))), (q_44, .inr (5, sF u_45)), (q_49, .inr (5, sF u_50)), (q_54, .inr (5, sF u_55)), (q_59, .inr (5, sF u_60)), (q_64, .inr (5, sF u_65))]) rfl
              have hP := re_P hP 2 rfl (re_i (g := fun _ => -5) (fun j hj => v2_loop_41 j (by omega)))
              have hP : va_P D vwCl [(h0, .inr (8, [.ref q_1, .ref q_2, .ref q_3, .ref q_4, .ref q_5, .ref q_6, .ref q_7, .ref q_11, .ref q_15, .ref q_19, .ref q_23, .ref q_27, .ref q_31, .int 0])), (q_1, .inl (E 0, 400, .inl gf138_0)), (q_2, .inl (E 0, 16, .inl (fun _ => -5))), (q_3, .inl (E 0, 16, .inl (fun _ => 0))), (q_4, .inl (E 3, 16, .inr (.inr (.inr (.inr (fun _ => none)))))), (q_5, .inl (E 4, 5, .inr (.inr (.inr (.inr (va_up (va_up (va_up (va_up (va_up (fun _ => none) (0 : Int32).toNatClampNeg (some q_44)) (1 : Int32).toNatClampNeg (some q_49)) (2 : Int32).toNatClampNeg (some q_54)) (3 : Int32).toNatClampNeg (some q_59)) (4 : Int32).toNatClampNeg (some q_64))))))), (q_7, .inr (2, [.ref (u_8 0), .ref (u_8 1), .ref (u_8 2), .ref (u_8 3), .ref (u_8 4), .int 0])), ((u_8 0), .inl (E 0, 60, .inl (fun _ => 0))), ((u_8 1), .inl (E 0, 60, .inl (fun _ => 0))), ((u_8 2), .inl (E 0, 60, .inl (fun _ => 0))), ((u_8 3), .inl (E 0, 60, .inl (fun _ => 0))), ((u_8 4), .inl (E 0, 60, .inl (fun _ => 0))), (q_19, .inr (6, [.ref (u_20 0), .int 0, .ref (u_20 1), .ref (E 5), .int 0, .int 0, .int 0, .int 0])), ((u_20 0), .inl (E 0, 120, .inl (fun _ => 0))), ((u_20 1), .inr (4, [.ref (u_20 2), .ref (u_20 3), .ref (u_20 4), .int 0])), (q_23, .inr (0, [.ref (u_24 0), .ref (u_24 1), .ref (u_24 2), .ref (u_24 3), .ref (u_24 4), .int 0, .int 0, .int 0, .int 0])), ((u_24 0), .inl (E 0, 9, .inl (fun _ => 0))), (q_44, .inr (5, sF u_45)), (q_49, .inr (5, sF u_50)), (q_54, .inr (5, sF u_55)), (q_59, .inr (5, sF u_60)), (q_64, .inr (5, sF u_65))] H := hP
              have hD : va_D A [(h0, .inr (8, [.ref q_1, .ref q_2, .ref q_3, .ref q_4, .ref q_5, .ref q_6, .ref q_7, .ref q_11, .ref q_15, .ref q_19, .ref q_23, .ref q_27, .ref q_31, .int 0])), (q_1, .inl (E 0, 400, .inl gf138_0)), (q_2, .inl (E 0, 16, .inl (fun _ => -5))), (q_3, .inl (E 0, 16, .inl (fun _ => 0))), (q_4, .inl (E 3, 16, .inr (.inr (.inr (.inr (fun _ => none)))))), (q_5, .inl (E 4, 5, .inr (.inr (.inr (.inr (va_up (va_up (va_up (va_up (va_up (fun _ => none) (0 : Int32).toNatClampNeg (some q_44)) (1 : Int32).toNatClampNeg (some q_49)) (2 : Int32).toNatClampNeg (some q_54)) (3 : Int32).toNatClampNeg (some q_59)) (4 : Int32).toNatClampNeg (some q_64))))))), (q_7, .inr (2, [.ref (u_8 0), .ref (u_8 1), .ref (u_8 2), .ref (u_8 3), .ref (u_8 4), .int 0])), ((u_8 0), .inl (E 0, 60, .inl (fun _ => 0))), ((u_8 1), .inl (E 0, 60, .inl (fun _ => 0))), ((u_8 2), .inl (E 0, 60, .inl (fun _ => 0))), ((u_8 3), .inl (E 0, 60, .inl (fun _ => 0))), ((u_8 4), .inl (E 0, 60, .inl (fun _ => 0))), (q_19, .inr (6, [.ref (u_20 0), .int 0, .ref (u_20 1), .ref (E 5), .int 0, .int 0, .int 0, .int 0])), ((u_20 0), .inl (E 0, 120, .inl (fun _ => 0))), ((u_20 1), .inr (4, [.ref (u_20 2), .ref (u_20 3), .ref (u_20 4), .int 0])), (q_23, .inr (0, [.ref (u_24 0), .ref (u_24 1), .ref (u_24 2), .ref (u_24 3), .ref (u_24 4), .int 0, .int 0, .int 0, .int 0])), ((u_24 0), .inl (E 0, 9, .inl (fun _ => 0))), (q_44, .inr (5, sF u_45)), (q_49, .inr (5, sF u_50)), (q_54, .inr (5, sF u_55)), (q_59, .inr (5, sF u_60)), (q_64, .inr (5, sF u_65))] := hD
              have hD := hD.set (e := .inl (E 4, 5, .inr (.inr (.inr (.inr (fun j => some ((fun k => ([q_1, q_2, q_3, q_4, q_5, q_6, q_7, q_11, q_15, q_19, q_23, q_27, q_31, q_44, q_49, q_54, q_59, q_64, (u_8 0), (u_8 1), (u_8 2), (u_8 3), (u_8 4), (u_20 0), (u_20 1), (u_20 2), (u_20 3), (u_20 4), (u_24 0), (u_24 1), (u_24 2), (u_24 3), (u_24 4)] : List Nat).getD k 0) (13 + j)))))))) (p := 5) (ws := [(h0, .inr (8, [.ref q_1, .ref q_2, .ref q_3, .ref q_4, .ref q_5, .ref q_6, .ref q_7, .ref q_11, .ref q_15, .ref q_19, .ref q_23, .ref q_27, .ref q_31, .int 0])), (q_1, .inl (E 0, 400, .inl gf138_0)), (q_2, .inl (E 0, 16, .inl (fun _ => -5))), (q_3, .inl (E 0, 16, .inl (fun _ => 0))), (q_4, .inl (E 3, 16, .inr (.inr (.inr (.inr (fun _ => none)))))), (q_5, .inl (E 4, 5, .inr (.inr (.inr (.inr (va_up (va_up (va_up (va_up (va_up (fun _ => none) (0 : Int32).toNatClampNeg (some q_44)) (1 : Int32).toNatClampNeg (some q_49)) (2 : Int32).toNatClampNeg (some q_54)) (3 : Int32).toNatClampNeg (some q_59)) (4 : Int32).toNatClampNeg (some q_64))))))), (q_7, .inr (2, [.ref (u_8 0), .ref (u_8 1), .ref (u_8 2), .ref (u_8 3), .ref (u_8 4), .int 0])), ((u_8 0), .inl (E 0, 60, .inl (fun _ => 0))), ((u_8 1), .inl (E 0, 60, .inl (fun _ => 0))), ((u_8 2), .inl (E 0, 60, .inl (fun _ => 0))), ((u_8 3), .inl (E 0, 60, .inl (fun _ => 0))), ((u_8 4), .inl (E 0, 60, .inl (fun _ => 0))), (q_19, .inr (6, [.ref (u_20 0), .int 0, .ref (u_20 1), .ref (E 5), .int 0, .int 0, .int 0, .int 0])), ((u_20 0), .inl (E 0, 120, .inl (fun _ => 0))), ((u_20 1), .inr (4, [.ref (u_20 2), .ref (u_20 3), .ref (u_20 4), .int 0])), (q_23, .inr (0, [.ref (u_24 0), .ref (u_24 1), .ref (u_24 2), .ref (u_24 3), .ref (u_24 4), .int 0, .int 0, .int 0, .int 0])), ((u_24 0), .inl (E 0, 9, .inl (fun _ => 0))), (q_44, .inr (5, sF u_45)), (q_49, .inr (5, sF u_50)), (q_54, .inr (5, sF u_55)), (q_59, .inr (5, sF u_60)), (q_64, .inr (5, sF u_65))]) rfl
              have hP := re_P hP 5 rfl (re_q (g := (fun j => some ((fun k => ([q_1, q_2, q_3, q_4, q_5, q_6, q_7, q_11, q_15, q_19, q_23, q_27, q_31, q_44, q_49, q_54, q_59, q_64, (u_8 0), (u_8 1), (u_8 2), (u_8 3), (u_8 4), (u_20 0), (u_20 1), (u_20 2), (u_20 3), (u_20 4), (u_24 0), (u_24 1), (u_24 2), (u_24 3), (u_24 4)] : List Nat).getD k 0) (13 + j)))) (fun j hj => by rcases (show j = 0 ∨ j = 1 ∨ j = 2 ∨ j = 3 ∨ j = 4 by omega) with rfl | rfl | rfl | rfl | rfl <;> rfl))
              have hP : va_P D vwCl [(h0, .inr (8, [.ref q_1, .ref q_2, .ref q_3, .ref q_4, .ref q_5, .ref q_6, .ref q_7, .ref q_11, .ref q_15, .ref q_19, .ref q_23, .ref q_27, .ref q_31, .int 0])), (q_1, .inl (E 0, 400, .inl gf138_0)), (q_2, .inl (E 0, 16, .inl (fun _ => -5))), (q_3, .inl (E 0, 16, .inl (fun _ => 0))), (q_4, .inl (E 3, 16, .inr (.inr (.inr (.inr (fun _ => none)))))), (q_5, .inl (E 4, 5, .inr (.inr (.inr (.inr (fun j => some ((fun k => ([q_1, q_2, q_3, q_4, q_5, q_6, q_7, q_11, q_15, q_19, q_23, q_27, q_31, q_44, q_49, q_54, q_59, q_64, (u_8 0), (u_8 1), (u_8 2), (u_8 3), (u_8 4), (u_20 0), (u_20 1), (u_20 2), (u_20 3), (u_20 4), (u_24 0), (u_24 1), (u_24 2), (u_24 3), (u_24 4)] : List Nat).getD k 0) (13 + j)))))))), (q_7, .inr (2, [.ref (u_8 0), .ref (u_8 1), .ref (u_8 2), .ref (u_8 3), .ref (u_8 4), .int 0])), ((u_8 0), .inl (E 0, 60, .inl (fun _ => 0))), ((u_8 1), .inl (E 0, 60, .inl (fun _ => 0))), ((u_8 2), .inl (E 0, 60, .inl (fun _ => 0))), ((u_8 3), .inl (E 0, 60, .inl (fun _ => 0))), ((u_8 4), .inl (E 0, 60, .inl (fun _ => 0))), (q_19, .inr (6, [.ref (u_20 0), .int 0, .ref (u_20 1), .ref (E 5), .int 0, .int 0, .int 0, .int 0])), ((u_20 0), .inl (E 0, 120, .inl (fun _ => 0))), ((u_20 1), .inr (4, [.ref (u_20 2), .ref (u_20 3), .ref (u_20 4), .int 0])), (q_23, .inr (0, [.ref (u_24 0), .ref (u_24 1), .ref (u_24 2), .ref (u_24 3), .ref (u_24 4), .int 0, .int 0, .int 0, .int 0])), ((u_24 0), .inl (E 0, 9, .inl (fun _ => 0))), (q_44, .inr (5, sF u_45)), (q_49, .inr (5, sF u_50)), (q_54, .inr (5, sF u_55)), (q_59, .inr (5, sF u_60)), (q_64, .inr (5, sF u_65))] H := hP
              have hD : va_D A [(h0, .inr (8, [.ref q_1, .ref q_2, .ref q_3, .ref q_4, .ref q_5, .ref q_6, .ref q_7, .ref q_11, .ref q_15, .ref q_19, .ref q_23, .ref q_27, .ref q_31, .int 0])), (q_1, .inl (E 0, 400, .inl gf138_0)), (q_2, .inl (E 0, 16, .inl (fun _ => -5))), (q_3, .inl (E 0, 16, .inl (fun _ => 0))), (q_4, .inl (E 3, 16, .inr (.inr (.inr (.inr (fun _ => none)))))), (q_5, .inl (E 4, 5, .inr (.inr (.inr (.inr (fun j => some ((fun k => ([q_1, q_2, q_3, q_4, q_5, q_6, q_7, q_11, q_15, q_19, q_23, q_27, q_31, q_44, q_49, q_54, q_59, q_64, (u_8 0), (u_8 1), (u_8 2), (u_8 3), (u_8 4), (u_20 0), (u_20 1), (u_20 2), (u_20 3), (u_20 4), (u_24 0), (u_24 1), (u_24 2), (u_24 3), (u_24 4)] : List Nat).getD k 0) (13 + j)))))))), (q_7, .inr (2, [.ref (u_8 0), .ref (u_8 1), .ref (u_8 2), .ref (u_8 3), .ref (u_8 4), .int 0])), ((u_8 0), .inl (E 0, 60, .inl (fun _ => 0))), ((u_8 1), .inl (E 0, 60, .inl (fun _ => 0))), ((u_8 2), .inl (E 0, 60, .inl (fun _ => 0))), ((u_8 3), .inl (E 0, 60, .inl (fun _ => 0))), ((u_8 4), .inl (E 0, 60, .inl (fun _ => 0))), (q_19, .inr (6, [.ref (u_20 0), .int 0, .ref (u_20 1), .ref (E 5), .int 0, .int 0, .int 0, .int 0])), ((u_20 0), .inl (E 0, 120, .inl (fun _ => 0))), ((u_20 1), .inr (4, [.ref (u_20 2), .ref (u_20 3), .ref (u_20 4), .int 0])), (q_23, .inr (0, [.ref (u_24 0), .ref (u_24 1), .ref (u_24 2), .ref (u_24 3), .ref (u_24 4), .int 0, .int 0, .int 0, .int 0])), ((u_24 0), .inl (E 0, 9, .inl (fun _ => 0))), (q_44, .inr (5, sF u_45)), (q_49, .inr (5, sF u_50)), (q_54, .inr (5, sF u_55)), (q_59, .inr (5, sF u_60)), (q_64, .inr (5, sF u_65))] := hD
              have hP9 := hP.sub (ws' := [(h0, .inr (8, [.ref q_1, .ref q_2, .ref q_3, .ref q_4, .ref q_5, .ref q_6, .ref q_7, .ref q_11, .ref q_15, .ref q_19, .ref q_23, .ref q_27, .ref q_31, .int 0])), (q_1, .inl (E 0, 400, .inl gf138_0)), (q_2, .inl (E 0, 16, .inl (fun _ => -5))), (q_3, .inl (E 0, 16, .inl (fun _ => 0))), (q_4, .inl (E 3, 16, .inr (.inr (.inr (.inr (fun _ => none)))))), (q_5, .inl (E 4, 5, .inr (.inr (.inr (.inr (fun j => some ((fun k => ([q_1, q_2, q_3, q_4, q_5, q_6, q_7, q_11, q_15, q_19, q_23, q_27, q_31, q_44, q_49, q_54, q_59, q_64, (u_8 0), (u_8 1), (u_8 2), (u_8 3), (u_8 4), (u_20 0), (u_20 1), (u_20 2), (u_20 3), (u_20 4), (u_24 0), (u_24 1), (u_24 2), (u_24 3), (u_24 4)] : List Nat).getD k 0) (13 + j)))))))), (q_44, .inr (5, sF u_45)), (q_49, .inr (5, sF u_50)), (q_54, .inr (5, sF u_55)), (q_59, .inr (5, sF u_60)), (q_64, .inr (5, sF u_65)), (q_7, .inr (2, [.ref (u_8 0), .ref (u_8 1), .ref (u_8 2), .ref (u_8 3), .ref (u_8 4), .int 0])), ((u_8 0), .inl (E 0, 60, .inl (fun _ => 0))), ((u_8 1), .inl (E 0, 60, .inl (fun _ => 0))), ((u_8 2), .inl (E 0, 60, .inl (fun _ => 0))), ((u_8 3), .inl (E 0, 60, .inl (fun _ => 0))), ((u_8 4), .inl (E 0, 60, .inl (fun _ => 0))), (q_19, .inr (6, [.ref (u_20 0), .int 0, .ref (u_20 1), .ref (E 5), .int 0, .int 0, .int 0, .int 0])), ((u_20 0), .inl (E 0, 120, .inl (fun _ => 0))), ((u_20 1), .inr (4, [.ref (u_20 2), .ref (u_20 3), .ref (u_20 4), .int 0])), (q_23, .inr (0, [.ref (u_24 0), .ref (u_24 1), .ref (u_24 2), .ref (u_24 3), .ref (u_24 4), .int 0, .int 0, .int 0, .int 0])), ((u_24 0), .inl (E 0, 9, .inl (fun _ => 0)))]) [0, 1, 2, 3, 4, 5, 17, 18, 19, 20, 21, 6, 7, 8, 9, 10, 11, 12, 13, 14, 15, 16] rfl
              have hD9 := hD.sub (ws' := [(h0, .inr (8, [.ref q_1, .ref q_2, .ref q_3, .ref q_4, .ref q_5, .ref q_6, .ref q_7, .ref q_11, .ref q_15, .ref q_19, .ref q_23, .ref q_27, .ref q_31, .int 0])), (q_1, .inl (E 0, 400, .inl gf138_0)), (q_2, .inl (E 0, 16, .inl (fun _ => -5))), (q_3, .inl (E 0, 16, .inl (fun _ => 0))), (q_4, .inl (E 3, 16, .inr (.inr (.inr (.inr (fun _ => none)))))), (q_5, .inl (E 4, 5, .inr (.inr (.inr (.inr (fun j => some ((fun k => ([q_1, q_2, q_3, q_4, q_5, q_6, q_7, q_11, q_15, q_19, q_23, q_27, q_31, q_44, q_49, q_54, q_59, q_64, (u_8 0), (u_8 1), (u_8 2), (u_8 3), (u_8 4), (u_20 0), (u_20 1), (u_20 2), (u_20 3), (u_20 4), (u_24 0), (u_24 1), (u_24 2), (u_24 3), (u_24 4)] : List Nat).getD k 0) (13 + j)))))))), (q_44, .inr (5, sF u_45)), (q_49, .inr (5, sF u_50)), (q_54, .inr (5, sF u_55)), (q_59, .inr (5, sF u_60)), (q_64, .inr (5, sF u_65)), (q_7, .inr (2, [.ref (u_8 0), .ref (u_8 1), .ref (u_8 2), .ref (u_8 3), .ref (u_8 4), .int 0])), ((u_8 0), .inl (E 0, 60, .inl (fun _ => 0))), ((u_8 1), .inl (E 0, 60, .inl (fun _ => 0))), ((u_8 2), .inl (E 0, 60, .inl (fun _ => 0))), ((u_8 3), .inl (E 0, 60, .inl (fun _ => 0))), ((u_8 4), .inl (E 0, 60, .inl (fun _ => 0))), (q_19, .inr (6, [.ref (u_20 0), .int 0, .ref (u_20 1), .ref (E 5), .int 0, .int 0, .int 0, .int 0])), ((u_20 0), .inl (E 0, 120, .inl (fun _ => 0))), ((u_20 1), .inr (4, [.ref (u_20 2), .ref (u_20 3), .ref (u_20 4), .int 0])), (q_23, .inr (0, [.ref (u_24 0), .ref (u_24 1), .ref (u_24 2), .ref (u_24 3), .ref (u_24 4), .int 0, .int 0, .int 0, .int 0])), ((u_24 0), .inl (E 0, 9, .inl (fun _ => 0)))]) [0, 1, 2, 3, 4, 5, 17, 18, 19, 20, 21, 6, 7, 8, 9, 10, 11, 12, 13, 14, 15, 16] (by decide) rfl
              exact W.vret hx hb hr (fun t ht hW => ⟨⟨((fun k => ([q_1, q_2, q_3, q_4, q_5, q_6, q_7, q_11, q_15, q_19, q_23, q_27, q_31, q_44, q_49, q_54, q_59, q_64, (u_8 0), (u_8 1), (u_8 2), (u_8 3), (u_8 4), (u_20 0), (u_20 1), (u_20 2), (u_20 3), (u_20 4), (u_24 0), (u_24 1), (u_24 2), (u_24 3), (u_24 4)] : List Nat).getD k 0), (fun j => ([u_45, u_50, u_55, u_60, u_65] : List (Nat → Nat)).getD j (fun _ => 0)), gf138_0), rfl, trivial, by rw [ht]; exact hP9, hD9⟩, hS.F ht⟩) hS.2.2 dX8_init_207
            ·
              have ic_42 : iy.toInt < 16 := by first | exact (g_lt rfl t_16).mp c_42 | (have h := mt (g_le t_16 rfl).mpr c_42; omega)
              refine lv_aload_n hx hb dX8_init_167 rfl (lv_at hl 1 rfl) ?_
              refine va_get (D := D) (ci := 8) (v := .ref q_2) (C := RX8) (T := TX8) (N := 14) hx hb htb iX8 hown hK.1 hP 0 rfl rfl 1 (by decide) (htb _ k_273) (fun _ h9 => h9) rfl dX8_init_168 ?_
              refine lv_iload_n hx hb dX8_init_171 rfl (lv_at hl 0 rfl) ?_
              refine lv_bipush (v := (-5)) hx hb dX8_init_172 (by decide) ?_
              refine va_iast hx hb hK.1 hP hD hS 2 0 rfl rfl (g_in rfl (by omega) (by omega)) dX8_init_174 (fun H locs hP hD hS => ?_)
              have hP : va_P D vwCl [(h0, .inr (8, [.ref q_1, .ref q_2, .ref q_3, .ref q_4, .ref q_5, .ref q_6, .ref q_7, .ref q_11, .ref q_15, .ref q_19, .ref q_23, .ref q_27, .ref q_31, .int 0])), (q_1, .inl (E 0, 400, .inl gf138_0)), (q_2, .inl (E 0, 16, .inl (upd gf161_0 (iy : Int32).toNatClampNeg (-5)))), (q_3, .inl (E 0, 16, .inl (fun _ => 0))), (q_4, .inl (E 3, 16, .inr (.inr (.inr (.inr (fun _ => none)))))), (q_5, .inl (E 4, 5, .inr (.inr (.inr (.inr (fun _ => none)))))), (q_7, .inr (2, [.ref (u_8 0), .ref (u_8 1), .ref (u_8 2), .ref (u_8 3), .ref (u_8 4), .int 0])), ((u_8 0), .inl (E 0, 60, .inl (fun _ => 0))), ((u_8 1), .inl (E 0, 60, .inl (fun _ => 0))), ((u_8 2), .inl (E 0, 60, .inl (fun _ => 0))), ((u_8 3), .inl (E 0, 60, .inl (fun _ => 0))), ((u_8 4), .inl (E 0, 60, .inl (fun _ => 0))), (q_19, .inr (6, [.ref (u_20 0), .int 0, .ref (u_20 1), .ref (E 5), .int 0, .int 0, .int 0, .int 0])), ((u_20 0), .inl (E 0, 120, .inl (fun _ => 0))), ((u_20 1), .inr (4, [.ref (u_20 2), .ref (u_20 3), .ref (u_20 4), .int 0])), (q_23, .inr (0, [.ref (u_24 0), .ref (u_24 1), .ref (u_24 2), .ref (u_24 3), .ref (u_24 4), .int 0, .int 0, .int 0, .int 0])), ((u_24 0), .inl (E 0, 9, .inl (fun _ => 0)))] H := hP
              have hD : va_D A [(h0, .inr (8, [.ref q_1, .ref q_2, .ref q_3, .ref q_4, .ref q_5, .ref q_6, .ref q_7, .ref q_11, .ref q_15, .ref q_19, .ref q_23, .ref q_27, .ref q_31, .int 0])), (q_1, .inl (E 0, 400, .inl gf138_0)), (q_2, .inl (E 0, 16, .inl (upd gf161_0 (iy : Int32).toNatClampNeg (-5)))), (q_3, .inl (E 0, 16, .inl (fun _ => 0))), (q_4, .inl (E 3, 16, .inr (.inr (.inr (.inr (fun _ => none)))))), (q_5, .inl (E 4, 5, .inr (.inr (.inr (.inr (fun _ => none)))))), (q_7, .inr (2, [.ref (u_8 0), .ref (u_8 1), .ref (u_8 2), .ref (u_8 3), .ref (u_8 4), .int 0])), ((u_8 0), .inl (E 0, 60, .inl (fun _ => 0))), ((u_8 1), .inl (E 0, 60, .inl (fun _ => 0))), ((u_8 2), .inl (E 0, 60, .inl (fun _ => 0))), ((u_8 3), .inl (E 0, 60, .inl (fun _ => 0))), ((u_8 4), .inl (E 0, 60, .inl (fun _ => 0))), (q_19, .inr (6, [.ref (u_20 0), .int 0, .ref (u_20 1), .ref (E 5), .int 0, .int 0, .int 0, .int 0])), ((u_20 0), .inl (E 0, 120, .inl (fun _ => 0))), ((u_20 1), .inr (4, [.ref (u_20 2), .ref (u_20 3), .ref (u_20 4), .int 0])), (q_23, .inr (0, [.ref (u_24 0), .ref (u_24 1), .ref (u_24 2), .ref (u_24 3), .ref (u_24 4), .int 0, .int 0, .int 0, .int 0])), ((u_24 0), .inl (E 0, 9, .inl (fun _ => 0)))] := hD
              obtain ⟨z_69, ez_69⟩ : ∃ y : Int32, y = iy + 1 := ⟨_, rfl⟩
              have jz_69 : z_69.toInt = iy.toInt + 1 := by rw [ez_69]; exact g_add rfl t_1 (by omega) (by omega)
              refine lv_iinc (v := z_69) (lv' := [(1, .int z_69), (0, .ref h0)]) hx hb dX8_init_175 hl (k := 0) rfl (by rw [ez_69]; rfl) (by decide) rfl (fun ls hl => ?_)
              refine lv_goto (tgt := 161) hx hb dX8_init_178 (by decide) ?_
              exact ih_39 z_69 (upd gf161_0 (iy : Int32).toNatClampNeg (-5)) _ _ _ (by omega) (by omega) (by omega) (fill_step (by omega) jz_69 v2_loop_41) hP hD hS (lv_sub hl [0, 1] rfl)
        exact loop_41 17 0 (fun _ => 0) _ _ _ (by have h0 := t_0; omega) (by have h0 := t_0; omega) (by have h0 := t_0; omega) (fun k hk => absurd hk (by have h0 := t_0; omega)) hP hD hS (lv_sub hl [0, 1] rfl)
      ·
        have ic_38 : ix.toInt < 400 := by first | exact (g_lt rfl t_400).mp c_38 | (have h := mt (g_le t_400 rfl).mpr c_38; omega)
        refine lv_aload_n hx hb dX8_init_145 rfl (lv_at hl 1 rfl) ?_
        refine va_get (D := D) (ci := 8) (v := .ref q_1) (C := RX8) (T := TX8) (N := 14) hx hb htb iX8 hown hK.1 hP 0 rfl rfl 0 (by decide) (htb _ k_272) (fun _ h9 => h9) rfl dX8_init_146 ?_
        refine lv_iload_n hx hb dX8_init_149 rfl (lv_at hl 0 rfl) ?_
        refine lv_bipush (v := (-100)) hx hb dX8_init_150 (by decide) ?_
        refine va_iast hx hb hK.1 hP hD hS 1 0 rfl rfl (g_in rfl (by omega) (by omega)) dX8_init_152 (fun H locs hP hD hS => ?_)
        have hP : va_P D vwCl [(h0, .inr (8, [.ref q_1, .ref q_2, .ref q_3, .ref q_4, .ref q_5, .ref q_6, .ref q_7, .ref q_11, .ref q_15, .ref q_19, .ref q_23, .ref q_27, .ref q_31, .int 0])), (q_1, .inl (E 0, 400, .inl (upd gf138_0 (ix : Int32).toNatClampNeg (-100)))), (q_2, .inl (E 0, 16, .inl (fun _ => 0))), (q_3, .inl (E 0, 16, .inl (fun _ => 0))), (q_4, .inl (E 3, 16, .inr (.inr (.inr (.inr (fun _ => none)))))), (q_5, .inl (E 4, 5, .inr (.inr (.inr (.inr (fun _ => none)))))), (q_7, .inr (2, [.ref (u_8 0), .ref (u_8 1), .ref (u_8 2), .ref (u_8 3), .ref (u_8 4), .int 0])), ((u_8 0), .inl (E 0, 60, .inl (fun _ => 0))), ((u_8 1), .inl (E 0, 60, .inl (fun _ => 0))), ((u_8 2), .inl (E 0, 60, .inl (fun _ => 0))), ((u_8 3), .inl (E 0, 60, .inl (fun _ => 0))), ((u_8 4), .inl (E 0, 60, .inl (fun _ => 0))), (q_19, .inr (6, [.ref (u_20 0), .int 0, .ref (u_20 1), .ref (E 5), .int 0, .int 0, .int 0, .int 0])), ((u_20 0), .inl (E 0, 120, .inl (fun _ => 0))), ((u_20 1), .inr (4, [.ref (u_20 2), .ref (u_20 3), .ref (u_20 4), .int 0])), (q_23, .inr (0, [.ref (u_24 0), .ref (u_24 1), .ref (u_24 2), .ref (u_24 3), .ref (u_24 4), .int 0, .int 0, .int 0, .int 0])), ((u_24 0), .inl (E 0, 9, .inl (fun _ => 0)))] H := hP
        have hD : va_D A [(h0, .inr (8, [.ref q_1, .ref q_2, .ref q_3, .ref q_4, .ref q_5, .ref q_6, .ref q_7, .ref q_11, .ref q_15, .ref q_19, .ref q_23, .ref q_27, .ref q_31, .int 0])), (q_1, .inl (E 0, 400, .inl (upd gf138_0 (ix : Int32).toNatClampNeg (-100)))), (q_2, .inl (E 0, 16, .inl (fun _ => 0))), (q_3, .inl (E 0, 16, .inl (fun _ => 0))), (q_4, .inl (E 3, 16, .inr (.inr (.inr (.inr (fun _ => none)))))), (q_5, .inl (E 4, 5, .inr (.inr (.inr (.inr (fun _ => none)))))), (q_7, .inr (2, [.ref (u_8 0), .ref (u_8 1), .ref (u_8 2), .ref (u_8 3), .ref (u_8 4), .int 0])), ((u_8 0), .inl (E 0, 60, .inl (fun _ => 0))), ((u_8 1), .inl (E 0, 60, .inl (fun _ => 0))), ((u_8 2), .inl (E 0, 60, .inl (fun _ => 0))), ((u_8 3), .inl (E 0, 60, .inl (fun _ => 0))), ((u_8 4), .inl (E 0, 60, .inl (fun _ => 0))), (q_19, .inr (6, [.ref (u_20 0), .int 0, .ref (u_20 1), .ref (E 5), .int 0, .int 0, .int 0, .int 0])), ((u_20 0), .inl (E 0, 120, .inl (fun _ => 0))), ((u_20 1), .inr (4, [.ref (u_20 2), .ref (u_20 3), .ref (u_20 4), .int 0])), (q_23, .inr (0, [.ref (u_24 0), .ref (u_24 1), .ref (u_24 2), .ref (u_24 3), .ref (u_24 4), .int 0, .int 0, .int 0, .int 0])), ((u_24 0), .inl (E 0, 9, .inl (fun _ => 0)))] := hD
        obtain ⟨z_70, ez_70⟩ : ∃ y : Int32, y = ix + 1 := ⟨_, rfl⟩
        have jz_70 : z_70.toInt = ix.toInt + 1 := by rw [ez_70]; exact g_add rfl t_1 (by omega) (by omega)
        refine lv_iinc (v := z_70) (lv' := [(1, .int z_70), (0, .ref h0)]) hx hb dX8_init_153 hl (k := 0) rfl (by rw [ez_70]; rfl) (by decide) rfl (fun ls hl => ?_)
        refine lv_goto (tgt := 138) hx hb dX8_init_156 (by decide) ?_
        exact ih_35 z_70 (upd gf138_0 (ix : Int32).toNatClampNeg (-100)) _ _ _ (by omega) (by omega) (by omega) hP hD hS (lv_sub hl [0, 1] rfl)
  exact loop_37 401 0 (fun _ => 0) _ _ _ (by have h0 := t_0; omega) (by have h0 := t_0; omega) (by have h0 := t_0; omega) hP hD hS (lv_sub hl [0, 1] rfl)
end
