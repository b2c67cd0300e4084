section
-- ===== PART A: goes FIRST, ahead of the names: the tables' words, and 'selects' of the private methods out of them =====
/-- a private method of a class that the tables say can be made, by its rows of tables_1 -/
def lw_okq (q : MethodName × Nat) : Prop := (q.1.cls ≠ "java/lang/invoke/MethodHandle" ∧ q.1.cls ≠ "java/lang/invoke/VarHandle") ∧ Cond.instantiable q.1.cls q.2 ∈ tables_1 ∧ Cond.privateMethod q.1 ∈ tables_1 ∧ Cond.instanceMethod q.1 ∈ tables_1
theorem lw_p0 : lw_okq (⟨"SeaWatches", "bringWatch", "(I)V"⟩, 14) := ⟨⟨by decide +kernel, by decide +kernel⟩, List.mem_of_getElem? (i := 17) (by decide +kernel), List.mem_of_getElem? (i := 340) (by decide +kernel), List.mem_of_getElem? (i := 341) (by decide +kernel)⟩
theorem lw_p1 : lw_okq (⟨"SeaWatches", "watchAt", "(I)LSeaWatches$Watch;"⟩, 14) := ⟨⟨by decide +kernel, by decide +kernel⟩, List.mem_of_getElem? (i := 17) (by decide +kernel), List.mem_of_getElem? (i := 370) (by decide +kernel), List.mem_of_getElem? (i := 371) (by decide +kernel)⟩
theorem lw_p2 : lw_okq (⟨"SeaWatches", "isPast", "(I)Z"⟩, 14) := ⟨⟨by decide +kernel, by decide +kernel⟩, List.mem_of_getElem? (i := 17) (by decide +kernel), List.mem_of_getElem? (i := 392) (by decide +kernel), List.mem_of_getElem? (i := 393) (by decide +kernel)⟩
theorem lw_p3 : lw_okq (⟨"SeaWatches", "lackAt", "(I)I"⟩, 14) := ⟨⟨by decide +kernel, by decide +kernel⟩, List.mem_of_getElem? (i := 17) (by decide +kernel), List.mem_of_getElem? (i := 397) (by decide +kernel), List.mem_of_getElem? (i := 398) (by decide +kernel)⟩
theorem lw_p4 : lw_okq (⟨"SeaWatches", "markOn", "(III)I"⟩, 14) := ⟨⟨by decide +kernel, by decide +kernel⟩, List.mem_of_getElem? (i := 17) (by decide +kernel), List.mem_of_getElem? (i := 448) (by decide +kernel), List.mem_of_getElem? (i := 449) (by decide +kernel)⟩
theorem lw_p5 : lw_okq (⟨"SeaWatches", "refusalOfStretch", "(III)I"⟩, 14) := ⟨⟨by decide +kernel, by decide +kernel⟩, List.mem_of_getElem? (i := 17) (by decide +kernel), List.mem_of_getElem? (i := 487) (by decide +kernel), List.mem_of_getElem? (i := 488) (by decide +kernel)⟩
theorem lw_p6 : lw_okq (⟨"SeaWatches", "fitLaw", "(III)V"⟩, 14) := ⟨⟨by decide +kernel, by decide +kernel⟩, List.mem_of_getElem? (i := 17) (by decide +kernel), List.mem_of_getElem? (i := 491) (by decide +kernel), List.mem_of_getElem? (i := 492) (by decide +kernel)⟩
theorem lw_p7 : lw_okq (⟨"SeaWatches", "warmthFor", "(II)I"⟩, 14) := ⟨⟨by decide +kernel, by decide +kernel⟩, List.mem_of_getElem? (i := 17) (by decide +kernel), List.mem_of_getElem? (i := 506) (by decide +kernel), List.mem_of_getElem? (i := 507) (by decide +kernel)⟩
theorem lw_p8 : lw_okq (⟨"SeaWatches$Fit", "setLaw", "(IJJJ)V"⟩, 15) := ⟨⟨by decide +kernel, by decide +kernel⟩, List.mem_of_getElem? (i := 78) (by decide +kernel), List.mem_of_getElem? (i := 518) (by decide +kernel), List.mem_of_getElem? (i := 519) (by decide +kernel)⟩
theorem lw_p9 : lw_okq (⟨"SeaWatches$Fit", "addProduct", "(JJ)V"⟩, 15) := ⟨⟨by decide +kernel, by decide +kernel⟩, List.mem_of_getElem? (i := 78) (by decide +kernel), List.mem_of_getElem? (i := 543) (by decide +kernel), List.mem_of_getElem? (i := 544) (by decide +kernel)⟩
theorem lw_p10 : lw_okq (⟨"SeaWatches$Rates", "middleOne", "()I"⟩, 4) := ⟨⟨by decide +kernel, by decide +kernel⟩, List.mem_of_getElem? (i := 56) (by decide +kernel), List.mem_of_getElem? (i := 567) (by decide +kernel), List.mem_of_getElem? (i := 568) (by decide +kernel)⟩
theorem lw_p11 : lw_okq (⟨"SeaWatches$Tape", "goOn", "()V"⟩, 8) := ⟨⟨by decide +kernel, by decide +kernel⟩, List.mem_of_getElem? (i := 130) (by decide +kernel), List.mem_of_getElem? (i := 592) (by decide +kernel), List.mem_of_getElem? (i := 593) (by decide +kernel)⟩
theorem lw_p12 : lw_okq (⟨"SeaWatches$Tape", "takeLetters", "()V"⟩, 8) := ⟨⟨by decide +kernel, by decide +kernel⟩, List.mem_of_getElem? (i := 130) (by decide +kernel), List.mem_of_getElem? (i := 599) (by decide +kernel), List.mem_of_getElem? (i := 600) (by decide +kernel)⟩
theorem lw_p13 : lw_okq (⟨"SeaWatches$Tape", "placeAmongWords", "()I"⟩, 8) := ⟨⟨by decide +kernel, by decide +kernel⟩, List.mem_of_getElem? (i := 130) (by decide +kernel), List.mem_of_getElem? (i := 603) (by decide +kernel), List.mem_of_getElem? (i := 604) (by decide +kernel)⟩
theorem lw_p14 : lw_okq (⟨"SeaWatches$Tape", "isOnTape", "(II)Z"⟩, 8) := ⟨⟨by decide +kernel, by decide +kernel⟩, List.mem_of_getElem? (i := 130) (by decide +kernel), List.mem_of_getElem? (i := 655) (by decide +kernel), List.mem_of_getElem? (i := 656) (by decide +kernel)⟩
theorem lw_p15 : lw_okq (⟨"SeaWatches$Tape", "takeDigits", "()V"⟩, 8) := ⟨⟨by decide +kernel, by decide +kernel⟩, List.mem_of_getElem? (i := 130) (by decide +kernel), List.mem_of_getElem? (i := 662) (by decide +kernel), List.mem_of_getElem? (i := 663) (by decide +kernel)⟩
def lw_privs_1 : List (MethodName × Nat) := [(⟨"SeaWatches", "bringWatch", "(I)V"⟩, 14), (⟨"SeaWatches", "watchAt", "(I)LSeaWatches$Watch;"⟩, 14), (⟨"SeaWatches", "isPast", "(I)Z"⟩, 14), (⟨"SeaWatches", "lackAt", "(I)I"⟩, 14), (⟨"SeaWatches", "markOn", "(III)I"⟩, 14), (⟨"SeaWatches", "refusalOfStretch", "(III)I"⟩, 14), (⟨"SeaWatches", "fitLaw", "(III)V"⟩, 14), (⟨"SeaWatches", "warmthFor", "(II)I"⟩, 14), (⟨"SeaWatches$Fit", "setLaw", "(IJJJ)V"⟩, 15), (⟨"SeaWatches$Fit", "addProduct", "(JJ)V"⟩, 15), (⟨"SeaWatches$Rates", "middleOne", "()I"⟩, 4), (⟨"SeaWatches$Tape", "goOn", "()V"⟩, 8), (⟨"SeaWatches$Tape", "takeLetters", "()V"⟩, 8), (⟨"SeaWatches$Tape", "placeAmongWords", "()I"⟩, 8), (⟨"SeaWatches$Tape", "isOnTape", "(II)Z"⟩, 8), (⟨"SeaWatches$Tape", "takeDigits", "()V"⟩, 8)]
theorem lw_r1 : ∀ q ∈ lw_privs_1, lw_okq q := List.forall_mem_cons.mpr ⟨lw_p0, List.forall_mem_cons.mpr ⟨lw_p1, List.forall_mem_cons.mpr ⟨lw_p2, List.forall_mem_cons.mpr ⟨lw_p3, List.forall_mem_cons.mpr ⟨lw_p4, List.forall_mem_cons.mpr ⟨lw_p5, List.forall_mem_cons.mpr ⟨lw_p6, List.forall_mem_cons.mpr ⟨lw_p7, List.forall_mem_cons.mpr ⟨lw_p8, List.forall_mem_cons.mpr ⟨lw_p9, List.forall_mem_cons.mpr ⟨lw_p10, List.forall_mem_cons.mpr ⟨lw_p11, List.forall_mem_cons.mpr ⟨lw_p12, List.forall_mem_cons.mpr ⟨lw_p13, List.forall_mem_cons.mpr ⟨lw_p14, List.forall_mem_cons.mpr ⟨lw_p15, fun _ h => absurd h List.not_mem_nil⟩⟩⟩⟩⟩⟩⟩⟩⟩⟩⟩⟩⟩⟩⟩⟩
theorem lw_p16 : lw_okq (⟨"SeaWatches$Tape", "readEither", "(I)Z"⟩, 8) := ⟨⟨by decide +kernel, by decide +kernel⟩, List.mem_of_getElem? (i := 130) (by decide +kernel), List.mem_of_getElem? (i := 669) (by decide +kernel), List.mem_of_getElem? (i := 670) (by decide +kernel)⟩
theorem lw_p17 : lw_okq (⟨"SeaWatches$Tape", "readBoth", "(I)Z"⟩, 8) := ⟨⟨by decide +kernel, by decide +kernel⟩, List.mem_of_getElem? (i := 130) (by decide +kernel), List.mem_of_getElem? (i := 673) (by decide +kernel), List.mem_of_getElem? (i := 674) (by decide +kernel)⟩
theorem lw_p18 : lw_okq (⟨"SeaWatches$Tape", "readNegation", "(I)Z"⟩, 8) := ⟨⟨by decide +kernel, by decide +kernel⟩, List.mem_of_getElem? (i := 130) (by decide +kernel), List.mem_of_getElem? (i := 677) (by decide +kernel), List.mem_of_getElem? (i := 678) (by decide +kernel)⟩
theorem lw_p19 : lw_okq (⟨"SeaWatches$Tape", "readComparison", "(I)Z"⟩, 8) := ⟨⟨by decide +kernel, by decide +kernel⟩, List.mem_of_getElem? (i := 130) (by decide +kernel), List.mem_of_getElem? (i := 681) (by decide +kernel), List.mem_of_getElem? (i := 682) (by decide +kernel)⟩
theorem lw_p20 : lw_okq (⟨"SeaWatches$Tape", "readSum", "(I)Z"⟩, 8) := ⟨⟨by decide +kernel, by decide +kernel⟩, List.mem_of_getElem? (i := 130) (by decide +kernel), List.mem_of_getElem? (i := 685) (by decide +kernel), List.mem_of_getElem? (i := 686) (by decide +kernel)⟩
theorem lw_p21 : lw_okq (⟨"SeaWatches$Tape", "readProduct", "(I)Z"⟩, 8) := ⟨⟨by decide +kernel, by decide +kernel⟩, List.mem_of_getElem? (i := 130) (by decide +kernel), List.mem_of_getElem? (i := 689) (by decide +kernel), List.mem_of_getElem? (i := 690) (by decide +kernel)⟩
theorem lw_p22 : lw_okq (⟨"SeaWatches$Tape", "readOperand", "(I)Z"⟩, 8) := ⟨⟨by decide +kernel, by decide +kernel⟩, List.mem_of_getElem? (i := 130) (by decide +kernel), List.mem_of_getElem? (i := 693) (by decide +kernel), List.mem_of_getElem? (i := 694) (by decide +kernel)⟩
theorem lw_p23 : lw_okq (⟨"SeaWatches$Tape", "readInBrackets", "(I)Z"⟩, 8) := ⟨⟨by decide +kernel, by decide +kernel⟩, List.mem_of_getElem? (i := 130) (by decide +kernel), List.mem_of_getElem? (i := 701) (by decide +kernel), List.mem_of_getElem? (i := 702) (by decide +kernel)⟩
theorem lw_p24 : lw_okq (⟨"SeaWatches", "hasTrial", "(III)Z"⟩, 14) := ⟨⟨by decide +kernel, by decide +kernel⟩, List.mem_of_getElem? (i := 17) (by decide +kernel), List.mem_of_getElem? (i := 713) (by decide +kernel), List.mem_of_getElem? (i := 714) (by decide +kernel)⟩
theorem lw_p25 : lw_okq (⟨"SeaWatches", "workOutTrial", "(II)I"⟩, 14) := ⟨⟨by decide +kernel, by decide +kernel⟩, List.mem_of_getElem? (i := 17) (by decide +kernel), List.mem_of_getElem? (i := 717) (by decide +kernel), List.mem_of_getElem? (i := 718) (by decide +kernel)⟩
theorem lw_p26 : lw_okq (⟨"SeaWatches", "warmthSpan", "(I)I"⟩, 14) := ⟨⟨by decide +kernel, by decide +kernel⟩, List.mem_of_getElem? (i := 17) (by decide +kernel), List.mem_of_getElem? (i := 747) (by decide +kernel), List.mem_of_getElem? (i := 748) (by decide +kernel)⟩
theorem lw_p27 : lw_okq (⟨"SeaWatches", "firstLack", "(III)I"⟩, 14) := ⟨⟨by decide +kernel, by decide +kernel⟩, List.mem_of_getElem? (i := 17) (by decide +kernel), List.mem_of_getElem? (i := 777) (by decide +kernel), List.mem_of_getElem? (i := 778) (by decide +kernel)⟩
theorem lw_p28 : lw_okq (⟨"SeaWatches", "isFitToSail", "(I)Z"⟩, 14) := ⟨⟨by decide +kernel, by decide +kernel⟩, List.mem_of_getElem? (i := 17) (by decide +kernel), List.mem_of_getElem? (i := 781) (by decide +kernel), List.mem_of_getElem? (i := 782) (by decide +kernel)⟩
theorem lw_p29 : lw_okq (⟨"SeaWatches", "gatherBeforeSailing", "(LSeaWatches$Watch;)V"⟩, 14) := ⟨⟨by decide +kernel, by decide +kernel⟩, List.mem_of_getElem? (i := 17) (by decide +kernel), List.mem_of_getElem? (i := 785) (by decide +kernel), List.mem_of_getElem? (i := 786) (by decide +kernel)⟩
theorem lw_p30 : lw_okq (⟨"SeaWatches", "board", "(III)V"⟩, 14) := ⟨⟨by decide +kernel, by decide +kernel⟩, List.mem_of_getElem? (i := 17) (by decide +kernel), List.mem_of_getElem? (i := 793) (by decide +kernel), List.mem_of_getElem? (i := 794) (by decide +kernel)⟩
theorem lw_p31 : lw_okq (⟨"SeaWatches$Ship", "isOf", "(II)Z"⟩, 11) := ⟨⟨by decide +kernel, by decide +kernel⟩, List.mem_of_getElem? (i := 223) (by decide +kernel), List.mem_of_getElem? (i := 834) (by decide +kernel), List.mem_of_getElem? (i := 835) (by decide +kernel)⟩
def lw_privs_2 : List (MethodName × Nat) := [(⟨"SeaWatches$Tape", "readEither", "(I)Z"⟩, 8), (⟨"SeaWatches$Tape", "readBoth", "(I)Z"⟩, 8), (⟨"SeaWatches$Tape", "readNegation", "(I)Z"⟩, 8), (⟨"SeaWatches$Tape", "readComparison", "(I)Z"⟩, 8), (⟨"SeaWatches$Tape", "readSum", "(I)Z"⟩, 8), (⟨"SeaWatches$Tape", "readProduct", "(I)Z"⟩, 8), (⟨"SeaWatches$Tape", "readOperand", "(I)Z"⟩, 8), (⟨"SeaWatches$Tape", "readInBrackets", "(I)Z"⟩, 8), (⟨"SeaWatches", "hasTrial", "(III)Z"⟩, 14), (⟨"SeaWatches", "workOutTrial", "(II)I"⟩, 14), (⟨"SeaWatches", "warmthSpan", "(I)I"⟩, 14), (⟨"SeaWatches", "firstLack", "(III)I"⟩, 14), (⟨"SeaWatches", "isFitToSail", "(I)Z"⟩, 14), (⟨"SeaWatches", "gatherBeforeSailing", "(LSeaWatches$Watch;)V"⟩, 14), (⟨"SeaWatches", "board", "(III)V"⟩, 14), (⟨"SeaWatches$Ship", "isOf", "(II)Z"⟩, 11)]
theorem lw_r2 : ∀ q ∈ lw_privs_2, lw_okq q := List.forall_mem_cons.mpr ⟨lw_p16, List.forall_mem_cons.mpr ⟨lw_p17, List.forall_mem_cons.mpr ⟨lw_p18, List.forall_mem_cons.mpr ⟨lw_p19, List.forall_mem_cons.mpr ⟨lw_p20, List.forall_mem_cons.mpr ⟨lw_p21, List.forall_mem_cons.mpr ⟨lw_p22, List.forall_mem_cons.mpr ⟨lw_p23, List.forall_mem_cons.mpr ⟨lw_p24, List.forall_mem_cons.mpr ⟨lw_p25, List.forall_mem_cons.mpr ⟨lw_p26, List.forall_mem_cons.mpr ⟨lw_p27, List.forall_mem_cons.mpr ⟨lw_p28, List.forall_mem_cons.mpr ⟨lw_p29, List.forall_mem_cons.mpr ⟨lw_p30, List.forall_mem_cons.mpr ⟨lw_p31, fun _ h => absurd h List.not_mem_nil⟩⟩⟩⟩⟩⟩⟩⟩⟩⟩⟩⟩⟩⟩⟩⟩
theorem lw_p32 : lw_okq (⟨"SeaWatches", "droppedOf", "(LSeaWatches$Ship;I)I"⟩, 14) := ⟨⟨by decide +kernel, by decide +kernel⟩, List.mem_of_getElem? (i := 17) (by decide +kernel), List.mem_of_getElem? (i := 848) (by decide +kernel), List.mem_of_getElem? (i := 849) (by decide +kernel)⟩
theorem lw_p33 : lw_okq (⟨"SeaWatches", "unload", "(LSeaWatches$Ship;II)V"⟩, 14) := ⟨⟨by decide +kernel, by decide +kernel⟩, List.mem_of_getElem? (i := 17) (by decide +kernel), List.mem_of_getElem? (i := 879) (by decide +kernel), List.mem_of_getElem? (i := 880) (by decide +kernel)⟩
theorem lw_p34 : lw_okq (⟨"SeaWatches$Dealing", "tryFrom", "(II)V"⟩, 9) := ⟨⟨by decide +kernel, by decide +kernel⟩, List.mem_of_getElem? (i := 185) (by decide +kernel), List.mem_of_getElem? (i := 906) (by decide +kernel), List.mem_of_getElem? (i := 907) (by decide +kernel)⟩
theorem lw_p35 : lw_okq (⟨"SeaWatches$Dealing", "keepIfBetter", "()V"⟩, 9) := ⟨⟨by decide +kernel, by decide +kernel⟩, List.mem_of_getElem? (i := 185) (by decide +kernel), List.mem_of_getElem? (i := 910) (by decide +kernel), List.mem_of_getElem? (i := 911) (by decide +kernel)⟩
theorem lw_p36 : lw_okq (⟨"SeaWatches$Dealing", "secondLeast", "(I)I"⟩, 9) := ⟨⟨by decide +kernel, by decide +kernel⟩, List.mem_of_getElem? (i := 185) (by decide +kernel), List.mem_of_getElem? (i := 914) (by decide +kernel), List.mem_of_getElem? (i := 915) (by decide +kernel)⟩
theorem lw_p37 : lw_okq (⟨"SeaWatches", "placesWith", "(I)I"⟩, 14) := ⟨⟨by decide +kernel, by decide +kernel⟩, List.mem_of_getElem? (i := 17) (by decide +kernel), List.mem_of_getElem? (i := 946) (by decide +kernel), List.mem_of_getElem? (i := 947) (by decide +kernel)⟩
theorem lw_p38 : lw_okq (⟨"SeaWatches", "shipsAtSea", "()I"⟩, 14) := ⟨⟨by decide +kernel, by decide +kernel⟩, List.mem_of_getElem? (i := 17) (by decide +kernel), List.mem_of_getElem? (i := 950) (by decide +kernel), List.mem_of_getElem? (i := 951) (by decide +kernel)⟩
theorem lw_p39 : lw_okq (⟨"SeaWatchesModel", "isWatch", "(I)Z"⟩, 68) := ⟨⟨by decide +kernel, by decide +kernel⟩, List.mem_of_getElem? (i := 954) (by decide +kernel), List.mem_of_getElem? (i := 1190) (by decide +kernel), List.mem_of_getElem? (i := 1191) (by decide +kernel)⟩
theorem lw_p40 : lw_okq (⟨"SeaWatchesModel", "holderNow", "(I)I"⟩, 68) := ⟨⟨by decide +kernel, by decide +kernel⟩, List.mem_of_getElem? (i := 954) (by decide +kernel), List.mem_of_getElem? (i := 1194) (by decide +kernel), List.mem_of_getElem? (i := 1195) (by decide +kernel)⟩
theorem lw_p41 : lw_okq (⟨"SeaWatchesModel", "watchAt", "(I)I"⟩, 68) := ⟨⟨by decide +kernel, by decide +kernel⟩, List.mem_of_getElem? (i := 954) (by decide +kernel), List.mem_of_getElem? (i := 1213) (by decide +kernel), List.mem_of_getElem? (i := 1214) (by decide +kernel)⟩
theorem lw_p42 : lw_okq (⟨"SeaWatchesModel", "errorOf", "(III)I"⟩, 68) := ⟨⟨by decide +kernel, by decide +kernel⟩, List.mem_of_getElem? (i := 954) (by decide +kernel), List.mem_of_getElem? (i := 1224) (by decide +kernel), List.mem_of_getElem? (i := 1225) (by decide +kernel)⟩
theorem lw_p43 : lw_okq (⟨"SeaWatchesModel", "rateOf", "(III)I"⟩, 68) := ⟨⟨by decide +kernel, by decide +kernel⟩, List.mem_of_getElem? (i := 954) (by decide +kernel), List.mem_of_getElem? (i := 1232) (by decide +kernel), List.mem_of_getElem? (i := 1233) (by decide +kernel)⟩
theorem lw_p44 : lw_okq (⟨"SeaWatchesModel", "ageOf", "(II)I"⟩, 68) := ⟨⟨by decide +kernel, by decide +kernel⟩, List.mem_of_getElem? (i := 954) (by decide +kernel), List.mem_of_getElem? (i := 1251) (by decide +kernel), List.mem_of_getElem? (i := 1252) (by decide +kernel)⟩
theorem lw_p45 : lw_okq (⟨"SeaWatchesModel", "asked", "(III)I"⟩, 68) := ⟨⟨by decide +kernel, by decide +kernel⟩, List.mem_of_getElem? (i := 954) (by decide +kernel), List.mem_of_getElem? (i := 1270) (by decide +kernel), List.mem_of_getElem? (i := 1271) (by decide +kernel)⟩
theorem lw_p46 : lw_okq (⟨"SeaWatchesModel", "sumUp", "(III)V"⟩, 68) := ⟨⟨by decide +kernel, by decide +kernel⟩, List.mem_of_getElem? (i := 954) (by decide +kernel), List.mem_of_getElem? (i := 1274) (by decide +kernel), List.mem_of_getElem? (i := 1275) (by decide +kernel)⟩
theorem lw_p47 : lw_okq (⟨"SeaWatchesModel", "warmthOf", "(II)I"⟩, 68) := ⟨⟨by decide +kernel, by decide +kernel⟩, List.mem_of_getElem? (i := 954) (by decide +kernel), List.mem_of_getElem? (i := 1278) (by decide +kernel), List.mem_of_getElem? (i := 1279) (by decide +kernel)⟩
def lw_privs_3 : List (MethodName × Nat) := [(⟨"SeaWatches", "droppedOf", "(LSeaWatches$Ship;I)I"⟩, 14), (⟨"SeaWatches", "unload", "(LSeaWatches$Ship;II)V"⟩, 14), (⟨"SeaWatches$Dealing", "tryFrom", "(II)V"⟩, 9), (⟨"SeaWatches$Dealing", "keepIfBetter", "()V"⟩, 9), (⟨"SeaWatches$Dealing", "secondLeast", "(I)I"⟩, 9), (⟨"SeaWatches", "placesWith", "(I)I"⟩, 14), (⟨"SeaWatches", "shipsAtSea", "()I"⟩, 14), (⟨"SeaWatchesModel", "isWatch", "(I)Z"⟩, 68), (⟨"SeaWatchesModel", "holderNow", "(I)I"⟩, 68), (⟨"SeaWatchesModel", "watchAt", "(I)I"⟩, 68), (⟨"SeaWatchesModel", "errorOf", "(III)I"⟩, 68), (⟨"SeaWatchesModel", "rateOf", "(III)I"⟩, 68), (⟨"SeaWatchesModel", "ageOf", "(II)I"⟩, 68), (⟨"SeaWatchesModel", "asked", "(III)I"⟩, 68), (⟨"SeaWatchesModel", "sumUp", "(III)V"⟩, 68), (⟨"SeaWatchesModel", "warmthOf", "(II)I"⟩, 68)]
theorem lw_r3 : ∀ q ∈ lw_privs_3, lw_okq q := List.forall_mem_cons.mpr ⟨lw_p32, List.forall_mem_cons.mpr ⟨lw_p33, List.forall_mem_cons.mpr ⟨lw_p34, List.forall_mem_cons.mpr ⟨lw_p35, List.forall_mem_cons.mpr ⟨lw_p36, List.forall_mem_cons.mpr ⟨lw_p37, List.forall_mem_cons.mpr ⟨lw_p38, List.forall_mem_cons.mpr ⟨lw_p39, List.forall_mem_cons.mpr ⟨lw_p40, List.forall_mem_cons.mpr ⟨lw_p41, List.forall_mem_cons.mpr ⟨lw_p42, List.forall_mem_cons.mpr ⟨lw_p43, List.forall_mem_cons.mpr ⟨lw_p44, List.forall_mem_cons.mpr ⟨lw_p45, List.forall_mem_cons.mpr ⟨lw_p46, List.forall_mem_cons.mpr ⟨lw_p47, fun _ h => absurd h List.not_mem_nil⟩⟩⟩⟩⟩⟩⟩⟩⟩⟩⟩⟩⟩⟩⟩⟩
theorem lw_p48 : lw_okq (⟨"SeaWatchesModel", "termsNow", "()I"⟩, 68) := ⟨⟨by decide +kernel, by decide +kernel⟩, List.mem_of_getElem? (i := 954) (by decide +kernel), List.mem_of_getElem? (i := 1288) (by decide +kernel), List.mem_of_getElem? (i := 1289) (by decide +kernel)⟩
theorem lw_p49 : lw_okq (⟨"SeaWatchesModel", "three", "()J"⟩, 68) := ⟨⟨by decide +kernel, by decide +kernel⟩, List.mem_of_getElem? (i := 954) (by decide +kernel), List.mem_of_getElem? (i := 1292) (by decide +kernel), List.mem_of_getElem? (i := 1293) (by decide +kernel)⟩
theorem lw_p50 : lw_okq (⟨"SeaWatchesModel", "two", "(JJ)J"⟩, 68) := ⟨⟨by decide +kernel, by decide +kernel⟩, List.mem_of_getElem? (i := 954) (by decide +kernel), List.mem_of_getElem? (i := 1296) (by decide +kernel), List.mem_of_getElem? (i := 1297) (by decide +kernel)⟩
theorem lw_p51 : lw_okq (⟨"SeaWatchesModel", "byThree", "(JJ)V"⟩, 68) := ⟨⟨by decide +kernel, by decide +kernel⟩, List.mem_of_getElem? (i := 954) (by decide +kernel), List.mem_of_getElem? (i := 1304) (by decide +kernel), List.mem_of_getElem? (i := 1305) (by decide +kernel)⟩
theorem lw_p52 : lw_okq (⟨"SeaWatchesModel", "byTwo", "(JJJJ)V"⟩, 68) := ⟨⟨by decide +kernel, by decide +kernel⟩, List.mem_of_getElem? (i := 954) (by decide +kernel), List.mem_of_getElem? (i := 1308) (by decide +kernel), List.mem_of_getElem? (i := 1309) (by decide +kernel)⟩
theorem lw_p53 : lw_okq (⟨"SeaWatchesModel", "findRates", "(III)V"⟩, 68) := ⟨⟨by decide +kernel, by decide +kernel⟩, List.mem_of_getElem? (i := 954) (by decide +kernel), List.mem_of_getElem? (i := 1323) (by decide +kernel), List.mem_of_getElem? (i := 1324) (by decide +kernel)⟩
theorem lw_p54 : lw_okq (⟨"SeaWatchesModel", "readRule", "(I)I"⟩, 68) := ⟨⟨by decide +kernel, by decide +kernel⟩, List.mem_of_getElem? (i := 954) (by decide +kernel), List.mem_of_getElem? (i := 1335) (by decide +kernel), List.mem_of_getElem? (i := 1336) (by decide +kernel)⟩
theorem lw_p55 : lw_okq (⟨"SeaWatchesModel", "advance", "(I)V"⟩, 68) := ⟨⟨by decide +kernel, by decide +kernel⟩, List.mem_of_getElem? (i := 954) (by decide +kernel), List.mem_of_getElem? (i := 1339) (by decide +kernel), List.mem_of_getElem? (i := 1340) (by decide +kernel)⟩
theorem lw_p56 : lw_okq (⟨"SeaWatchesModel", "opened", "()I"⟩, 68) := ⟨⟨by decide +kernel, by decide +kernel⟩, List.mem_of_getElem? (i := 954) (by decide +kernel), List.mem_of_getElem? (i := 1373) (by decide +kernel), List.mem_of_getElem? (i := 1374) (by decide +kernel)⟩
theorem lw_p57 : lw_okq (⟨"SeaWatchesModel", "lay", "(II)V"⟩, 68) := ⟨⟨by decide +kernel, by decide +kernel⟩, List.mem_of_getElem? (i := 954) (by decide +kernel), List.mem_of_getElem? (i := 1377) (by decide +kernel), List.mem_of_getElem? (i := 1378) (by decide +kernel)⟩
theorem lw_p58 : lw_okq (⟨"SeaWatchesModel", "done", "(I)V"⟩, 68) := ⟨⟨by decide +kernel, by decide +kernel⟩, List.mem_of_getElem? (i := 954) (by decide +kernel), List.mem_of_getElem? (i := 1381) (by decide +kernel), List.mem_of_getElem? (i := 1382) (by decide +kernel)⟩
theorem lw_p59 : lw_okq (⟨"SeaWatchesModel", "trialOf", "(III)I"⟩, 68) := ⟨⟨by decide +kernel, by decide +kernel⟩, List.mem_of_getElem? (i := 954) (by decide +kernel), List.mem_of_getElem? (i := 1392) (by decide +kernel), List.mem_of_getElem? (i := 1393) (by decide +kernel)⟩
theorem lw_p60 : lw_okq (⟨"SeaWatchesModel", "says", "(I)I"⟩, 68) := ⟨⟨by decide +kernel, by decide +kernel⟩, List.mem_of_getElem? (i := 954) (by decide +kernel), List.mem_of_getElem? (i := 1396) (by decide +kernel), List.mem_of_getElem? (i := 1397) (by decide +kernel)⟩
theorem lw_p61 : lw_okq (⟨"SeaWatchesModel", "hasTrial", "(III)Z"⟩, 68) := ⟨⟨by decide +kernel, by decide +kernel⟩, List.mem_of_getElem? (i := 954) (by decide +kernel), List.mem_of_getElem? (i := 1407) (by decide +kernel), List.mem_of_getElem? (i := 1408) (by decide +kernel)⟩
theorem lw_p62 : lw_okq (⟨"SeaWatchesModel", "maySail", "(I)Z"⟩, 68) := ⟨⟨by decide +kernel, by decide +kernel⟩, List.mem_of_getElem? (i := 954) (by decide +kernel), List.mem_of_getElem? (i := 1418) (by decide +kernel), List.mem_of_getElem? (i := 1419) (by decide +kernel)⟩
theorem lw_p63 : lw_okq (⟨"SeaWatchesModel", "goesTo", "(II)V"⟩, 68) := ⟨⟨by decide +kernel, by decide +kernel⟩, List.mem_of_getElem? (i := 954) (by decide +kernel), List.mem_of_getElem? (i := 1422) (by decide +kernel), List.mem_of_getElem? (i := 1423) (by decide +kernel)⟩
def lw_privs_4 : List (MethodName × Nat) := [(⟨"SeaWatchesModel", "termsNow", "()I"⟩, 68), (⟨"SeaWatchesModel", "three", "()J"⟩, 68), (⟨"SeaWatchesModel", "two", "(JJ)J"⟩, 68), (⟨"SeaWatchesModel", "byThree", "(JJ)V"⟩, 68), (⟨"SeaWatchesModel", "byTwo", "(JJJJ)V"⟩, 68), (⟨"SeaWatchesModel", "findRates", "(III)V"⟩, 68), (⟨"SeaWatchesModel", "readRule", "(I)I"⟩, 68), (⟨"SeaWatchesModel", "advance", "(I)V"⟩, 68), (⟨"SeaWatchesModel", "opened", "()I"⟩, 68), (⟨"SeaWatchesModel", "lay", "(II)V"⟩, 68), (⟨"SeaWatchesModel", "done", "(I)V"⟩, 68), (⟨"SeaWatchesModel", "trialOf", "(III)I"⟩, 68), (⟨"SeaWatchesModel", "says", "(I)I"⟩, 68), (⟨"SeaWatchesModel", "hasTrial", "(III)Z"⟩, 68), (⟨"SeaWatchesModel", "maySail", "(I)Z"⟩, 68), (⟨"SeaWatchesModel", "goesTo", "(II)V"⟩, 68)]
theorem lw_r4 : ∀ q ∈ lw_privs_4, lw_okq q := List.forall_mem_cons.mpr ⟨lw_p48, List.forall_mem_cons.mpr ⟨lw_p49, List.forall_mem_cons.mpr ⟨lw_p50, List.forall_mem_cons.mpr ⟨lw_p51, List.forall_mem_cons.mpr ⟨lw_p52, List.forall_mem_cons.mpr ⟨lw_p53, List.forall_mem_cons.mpr ⟨lw_p54, List.forall_mem_cons.mpr ⟨lw_p55, List.forall_mem_cons.mpr ⟨lw_p56, List.forall_mem_cons.mpr ⟨lw_p57, List.forall_mem_cons.mpr ⟨lw_p58, List.forall_mem_cons.mpr ⟨lw_p59, List.forall_mem_cons.mpr ⟨lw_p60, List.forall_mem_cons.mpr ⟨lw_p61, List.forall_mem_cons.mpr ⟨lw_p62, List.forall_mem_cons.mpr ⟨lw_p63, fun _ h => absurd h List.not_mem_nil⟩⟩⟩⟩⟩⟩⟩⟩⟩⟩⟩⟩⟩⟩⟩⟩
theorem lw_p64 : lw_okq (⟨"SeaWatchesModel", "work", "(II)I"⟩, 68) := ⟨⟨by decide +kernel, by decide +kernel⟩, List.mem_of_getElem? (i := 954) (by decide +kernel), List.mem_of_getElem? (i := 1443) (by decide +kernel), List.mem_of_getElem? (i := 1444) (by decide +kernel)⟩
theorem lw_p65 : lw_okq (⟨"SeaWatchesModel", "isWay", "(I)Z"⟩, 68) := ⟨⟨by decide +kernel, by decide +kernel⟩, List.mem_of_getElem? (i := 954) (by decide +kernel), List.mem_of_getElem? (i := 1465) (by decide +kernel), List.mem_of_getElem? (i := 1466) (by decide +kernel)⟩
theorem lw_p66 : lw_okq (⟨"SeaWatchesModel", "secondOf", "(I)I"⟩, 68) := ⟨⟨by decide +kernel, by decide +kernel⟩, List.mem_of_getElem? (i := 954) (by decide +kernel), List.mem_of_getElem? (i := 1469) (by decide +kernel), List.mem_of_getElem? (i := 1470) (by decide +kernel)⟩
def lw_privs_5 : List (MethodName × Nat) := [(⟨"SeaWatchesModel", "work", "(II)I"⟩, 68), (⟨"SeaWatchesModel", "isWay", "(I)Z"⟩, 68), (⟨"SeaWatchesModel", "secondOf", "(I)I"⟩, 68)]
theorem lw_r5 : ∀ q ∈ lw_privs_5, lw_okq q := List.forall_mem_cons.mpr ⟨lw_p64, List.forall_mem_cons.mpr ⟨lw_p65, List.forall_mem_cons.mpr ⟨lw_p66, fun _ h => absurd h List.not_mem_nil⟩⟩⟩
def lw_privs : List (MethodName × Nat) := lw_privs_1 ++ (lw_privs_2 ++ (lw_privs_3 ++ (lw_privs_4 ++ (lw_privs_5))))
def lw_tbl : List Cond := k2_sels lw_privs ++ tables_1
theorem lw_privs_ok : ∀ q ∈ lw_privs, lw_okq q := by
  show ∀ q ∈ lw_privs_1 ++ (lw_privs_2 ++ (lw_privs_3 ++ (lw_privs_4 ++ (lw_privs_5)))), lw_okq q
  exact List.forall_mem_append.mpr ⟨lw_r1, List.forall_mem_append.mpr ⟨lw_r2, List.forall_mem_append.mpr ⟨lw_r3, List.forall_mem_append.mpr ⟨lw_r4, lw_r5⟩⟩⟩⟩
end
section
/-! THE CLAIM OUT OF ONE WALK OF THE LAW'S BODY. Your part is whole_start (and what it stands on); all else here is the same for every law, but numbers. -/
def R_law : String := "SeaWatchesLaw"
def lw_P (b : Addr) (xs : List Int32) (args : Array Value) (s : State) : Prop := args = #[.ref b] ∧ s.IntsAt b xs ∧ xs.length ≤ 3072 ∧ (Jvm.Cond.and given_1 narrow_1).before args s = true
def lw_Q (_ : Array Value) (s : State) (o : Outcome) (t : State) : Prop := o = .returned (some (.int 1)) ∧ Framed s o t [] 600000 7302250
def lw_Z (below : List Frame) (a : Array Value) (s : State) : State → Prop := fun t => ∃ o, t.status = .running ∧ Ended t below o ∧ lw_Q a s o t
/-- the law's own end, with 1 on the stack, nothing written that was there before, its room as the claim has it -/
theorem lw_ret {p : Program} {l : Launch} {e : Env} {s : State} {m : MethodId} {below : List Frame} {meth : Method} {c : Code} {b : Nat} (hx : p.tables.exec = Jvm.exec) (hb : c.code = code) (hr : meth.sig.returnType = ret) (hlocks : meth.locks = false) {pc : Nat} {H : Heap} {ls : Array Slot} (hdg : decode code pc = .ok (.ireturn, 1)) : W p l e room_1 s m #[Value.ref b] below meth c H [] 600000 7302250 (lw_Z below #[Value.ref b] s) (F0 m pc ls [.int 1]) := by
  intro T hT X
  obtain ⟨fs, hret, hrun, hended, hW, hframe⟩ := X.leave (v := some (.int 1)) (hlocks := hlocks) (fun h => by rw [hr] at h; cases h)
  have hmeth' : T.vm.method? m = some meth := X.method'
  refine ⟨T.setFrames fs, ?_, .returned (some (.int 1)), hrun, hended, rfl, ⟨_, rfl⟩, hW, hframe⟩
  jvm_step X.here [X.here.top, hx, hb, hdg, hmeth', hr, ret, narrow_b1]
  (try refine ⟨rfl, ?_⟩); (try refine ⟨rfl, ?_⟩)
  first | (intro acts; rw [hret _ acts rfl rfl rfl]) | rw [hret _ _ rfl rfl rfl]
  exact Steps.refl _
/-- what holds at the law's entry: the machine, the code, the tables' words (any of lw_tbl by 'hts w (by decide +kernel)'), the script of L ints xs at the cell b, what the Statement gives of the start (any of its parts by flat_of_before) -/
def lw_At (p : Program) (s : State) (m : MethodId) (meth : Method) (c : Code) (b L : Nat) (xs : Nat → Int32) : Prop :=
  p.tables.exec = Jvm.exec ∧ c.code = code ∧ meth.sig.returnType = ret ∧ c.maxLocals = 4 ∧ s.vm.findClass R_law = some m.cls ∧ (∀ w ∈ lw_tbl, w.before #[Value.ref b] s = true) ∧ va_X b L xs s s.heap ∧ b < s.heap.size ∧ meth.locks = false ∧ (Jvm.Cond.and given_1 narrow_1).before #[Value.ref b] s = true

def RX0 : String := "SeaWatches$Dealing"
def TX0 : u_T := fun k => match k with
  | 0 => ("SeaWatches$Dealing", "doubts", "[I", true)
  | 1 => ("SeaWatches$Dealing", "way", "[I", true)
  | 2 => ("SeaWatches$Dealing", "best", "[I", true)
  | 3 => ("SeaWatches$Dealing", "voyages", "[I", true)
  | 4 => ("SeaWatches$Dealing", "given", "[I", true)
  | 5 => ("SeaWatches$Dealing", "listed", "I", false)
  | 6 => ("SeaWatches$Dealing", "shared", "I", false)
  | 7 => ("SeaWatches$Dealing", "sailing", "I", false)
  | _ => ("SeaWatches$Dealing", "leastWorst", "I", false)
def tyX0 : Nat → FieldType := fun k => match k with
  | 0 => .array .int
  | 1 => .array .int
  | 2 => .array .int
  | 3 => .array .int
  | 4 => .array .int
  | 5 => .int
  | 6 => .int
  | 7 => .int
  | _ => .int
abbrev wsX00 : List Cond := u_ws RX0 TX0 9
theorem nmX0 : ∀ a, a < 9 → ∀ b, b < 9 → a ≠ b → (TX0 a).2.1 ≠ (TX0 b).2.1 := by decide +kernel
theorem tyX0_ok : ∀ k, k < 9 → parseFieldDescriptor (TX0 k).2.2.1 = some (tyX0 k) := by decide +kernel
def RX1 : String := "SeaWatches$Fit"
def TX1 : u_T := fun k => match k with
  | 0 => ("SeaWatches$Fit", "n", "J", false)
  | 1 => ("SeaWatches$Fit", "sumR", "J", false)
  | 2 => ("SeaWatches$Fit", "sumW", "J", false)
  | 3 => ("SeaWatches$Fit", "sumA", "J", false)
  | 4 => ("SeaWatches$Fit", "sumWW", "J", false)
  | 5 => ("SeaWatches$Fit", "sumAA", "J", false)
  | 6 => ("SeaWatches$Fit", "sumWA", "J", false)
  | 7 => ("SeaWatches$Fit", "sumWR", "J", false)
  | 8 => ("SeaWatches$Fit", "sumAR", "J", false)
  | 9 => ("SeaWatches$Fit", "divisor", "J", false)
  | 10 => ("SeaWatches$Fit", "byWarmth", "J", false)
  | 11 => ("SeaWatches$Fit", "byAge", "J", false)
  | 12 => ("SeaWatches$Fit", "form", "I", false)
  | 13 => ("SeaWatches$Fit", "whole", "J", false)
  | _ => ("SeaWatches$Fit", "rest", "J", false)
def tyX1 : Nat → FieldType := fun k => match k with
  | 0 => .long
  | 1 => .long
  | 2 => .long
  | 3 => .long
  | 4 => .long
  | 5 => .long
  | 6 => .long
  | 7 => .long
  | 8 => .long
  | 9 => .long
  | 10 => .long
  | 11 => .long
  | 12 => .int
  | 13 => .long
  | _ => .long
abbrev wsX10 : List Cond := u_ws RX1 TX1 15
theorem nmX1 : ∀ a, a < 15 → ∀ b, b < 15 → a ≠ b → (TX1 a).2.1 ≠ (TX1 b).2.1 := by decide +kernel
theorem tyX1_ok : ∀ k, k < 15 → parseFieldDescriptor (TX1 k).2.2.1 = some (tyX1 k) := by decide +kernel
def RX2 : String := "SeaWatches$Offs"
def TX2 : u_T := fun k => match k with
  | 0 => ("SeaWatches$Offs", "signals", "[I", true)
  | 1 => ("SeaWatches$Offs", "firsts", "[I", true)
  | 2 => ("SeaWatches$Offs", "lasts", "[I", true)
  | 3 => ("SeaWatches$Offs", "values", "[I", true)
  | 4 => ("SeaWatches$Offs", "toldOn", "[I", true)
  | _ => ("SeaWatches$Offs", "size", "I", false)
def tyX2 : Nat → FieldType := fun k => match k with
  | 0 => .array .int
  | 1 => .array .int
  | 2 => .array .int
  | 3 => .array .int
  | 4 => .array .int
  | _ => .int
abbrev wsX20 : List Cond := u_ws RX2 TX2 6
theorem nmX2 : ∀ a, a < 6 → ∀ b, b < 6 → a ≠ b → (TX2 a).2.1 ≠ (TX2 b).2.1 := by decide +kernel
theorem tyX2_ok : ∀ k, k < 6 → parseFieldDescriptor (TX2 k).2.2.1 = some (tyX2 k) := by decide +kernel
def RX3 : String := "SeaWatches$Rates"
def TX3 : u_T := fun k => match k with
  | 0 => ("SeaWatches$Rates", "days", "[I", true)
  | 1 => ("SeaWatches$Rates", "values", "[I", true)
  | 2 => ("SeaWatches$Rates", "sorted", "[I", true)
  | _ => ("SeaWatches$Rates", "size", "I", false)
def tyX3 : Nat → FieldType := fun k => match k with
  | 0 => .array .int
  | 1 => .array .int
  | 2 => .array .int
  | _ => .int
abbrev wsX30 : List Cond := u_ws RX3 TX3 4
theorem nmX3 : ∀ a, a < 4 → ∀ b, b < 4 → a ≠ b → (TX3 a).2.1 ≠ (TX3 b).2.1 := by decide +kernel
theorem tyX3_ok : ∀ k, k < 4 → parseFieldDescriptor (TX3 k).2.2.1 = some (tyX3 k) := by decide +kernel
def RX4 : String := "SeaWatches$Rule"
def TX4 : u_T := fun k => match k with
  | 0 => ("SeaWatches$Rule", "signs", "[I", true)
  | 1 => ("SeaWatches$Rule", "values", "[I", true)
  | 2 => ("SeaWatches$Rule", "stack", "[I", true)
  | _ => ("SeaWatches$Rule", "size", "I", false)
def tyX4 : Nat → FieldType := fun k => match k with
  | 0 => .array .int
  | 1 => .array .int
  | 2 => .array .int
  | _ => .int
abbrev wsX40 : List Cond := u_ws RX4 TX4 4
theorem nmX4 : ∀ a, a < 4 → ∀ b, b < 4 → a ≠ b → (TX4 a).2.1 ≠ (TX4 b).2.1 := by decide +kernel
theorem tyX4_ok : ∀ k, k < 4 → parseFieldDescriptor (TX4 k).2.2.1 = some (tyX4 k) := by decide +kernel
def RX5 : String := "SeaWatches$Ship"
def TX5 : u_T := fun k => match k with
  | 0 => ("SeaWatches$Ship", "places", "[I", true)
  | 1 => ("SeaWatches$Ship", "starts", "[I", true)
  | 2 => ("SeaWatches$Ship", "goings", "[I", true)
  | 3 => ("SeaWatches$Ship", "doubts", "[I", true)
  | 4 => ("SeaWatches$Ship", "ends", "[I", true)
  | 5 => ("SeaWatches$Ship", "sightDays", "[I", true)
  | 6 => ("SeaWatches$Ship", "shown", "[I", true)
  | 7 => ("SeaWatches$Ship", "sights", "I", false)
  | 8 => ("SeaWatches$Ship", "stage", "I", false)
  | 9 => ("SeaWatches$Ship", "sailed", "I", false)
  | _ => ("SeaWatches$Ship", "voyage", "I", false)
def tyX5 : Nat → FieldType := fun k => match k with
  | 0 => .array .int
  | 1 => .array .int
  | 2 => .array .int
  | 3 => .array .int
  | 4 => .array .int
  | 5 => .array .int
  | 6 => .array .int
  | 7 => .int
  | 8 => .int
  | 9 => .int
  | _ => .int
abbrev wsX50 : List Cond := u_ws RX5 TX5 11
theorem nmX5 : ∀ a, a < 11 → ∀ b, b < 11 → a ≠ b → (TX5 a).2.1 ≠ (TX5 b).2.1 := by decide +kernel
theorem tyX5_ok : ∀ k, k < 11 → parseFieldDescriptor (TX5 k).2.2.1 = some (tyX5 k) := by decide +kernel
def RX6 : String := "SeaWatches$Tape"
def TX6 : u_T := fun k => match k with
  | 0 => ("SeaWatches$Tape", "bytes", "[I", true)
  | 1 => ("SeaWatches$Tape", "size", "I", false)
  | 2 => ("SeaWatches$Tape", "rule", "LSeaWatches$Rule;", false)
  | 3 => ("SeaWatches$Tape", "words", "Ljava/lang/String;", false)
  | 4 => ("SeaWatches$Tape", "at", "I", false)
  | 5 => ("SeaWatches$Tape", "word", "I", false)
  | 6 => ("SeaWatches$Tape", "wordAt", "I", false)
  | _ => ("SeaWatches$Tape", "value", "I", false)
def tyX6 : Nat → FieldType := fun k => match k with
  | 0 => .array .int
  | 1 => .int
  | 2 => .object "SeaWatches$Rule"
  | 3 => .object "java/lang/String"
  | 4 => .int
  | 5 => .int
  | 6 => .int
  | _ => .int
abbrev wsX60 : List Cond := u_ws RX6 TX6 8
theorem nmX6 : ∀ a, a < 8 → ∀ b, b < 8 → a ≠ b → (TX6 a).2.1 ≠ (TX6 b).2.1 := by decide +kernel
theorem tyX6_ok : ∀ k, k < 8 → parseFieldDescriptor (TX6 k).2.2.1 = some (tyX6 k) := by decide +kernel
def RX7 : String := "SeaWatches$Watch"
def TX7 : u_T := fun k => match k with
  | 0 => ("SeaWatches$Watch", "tolds", "[I", true)
  | 1 => ("SeaWatches$Watch", "sources", "[I", true)
  | 2 => ("SeaWatches$Watch", "marks", "[I", true)
  | _ => ("SeaWatches$Watch", "holders", "[I", true)
def tyX7 : Nat → FieldType := fun k => match k with
  | 0 => .array .int
  | 1 => .array .int
  | 2 => .array .int
  | _ => .array .int
abbrev wsX70 : List Cond := u_ws RX7 TX7 4
theorem nmX7 : ∀ a, a < 4 → ∀ b, b < 4 → a ≠ b → (TX7 a).2.1 ≠ (TX7 b).2.1 := by decide +kernel
theorem tyX7_ok : ∀ k, k < 4 → parseFieldDescriptor (TX7 k).2.2.1 = some (tyX7 k) := by decide +kernel
def RX8 : String := "SeaWatches"
def TX8 : u_T := fun k => match k with
  | 0 => ("SeaWatches", "warmths", "[I", true)
  | 1 => ("SeaWatches", "kinds", "[I", true)
  | 2 => ("SeaWatches", "numbers", "[I", true)
  | 3 => ("SeaWatches", "watches", "[LSeaWatches$Watch;", true)
  | 4 => ("SeaWatches", "ships", "[LSeaWatches$Ship;", true)
  | 5 => ("SeaWatches", "names", "[I", true)
  | 6 => ("SeaWatches", "offs", "LSeaWatches$Offs;", true)
  | 7 => ("SeaWatches", "rates", "LSeaWatches$Rates;", true)
  | 8 => ("SeaWatches", "fit", "LSeaWatches$Fit;", true)
  | 9 => ("SeaWatches", "tape", "LSeaWatches$Tape;", true)
  | 10 => ("SeaWatches", "dealing", "LSeaWatches$Dealing;", true)
  | 11 => ("SeaWatches", "trialRule", "LSeaWatches$Rule;", false)
  | 12 => ("SeaWatches", "dropRule", "LSeaWatches$Rule;", false)
  | _ => ("SeaWatches", "today", "I", false)
def tyX8 : Nat → FieldType := fun k => match k with
  | 0 => .array .int
  | 1 => .array .int
  | 2 => .array .int
  | 3 => .array (.object "SeaWatches$Watch")
  | 4 => .array (.object "SeaWatches$Ship")
  | 5 => .array .int
  | 6 => .object "SeaWatches$Offs"
  | 7 => .object "SeaWatches$Rates"
  | 8 => .object "SeaWatches$Fit"
  | 9 => .object "SeaWatches$Tape"
  | 10 => .object "SeaWatches$Dealing"
  | 11 => .object "SeaWatches$Rule"
  | 12 => .object "SeaWatches$Rule"
  | _ => .int
abbrev wsX80 : List Cond := u_ws RX8 TX8 14
theorem nmX8 : ∀ a, a < 14 → ∀ b, b < 14 → a ≠ b → (TX8 a).2.1 ≠ (TX8 b).2.1 := by decide +kernel
theorem tyX8_ok : ∀ k, k < 14 → parseFieldDescriptor (TX8 k).2.2.1 = some (tyX8 k) := by decide +kernel
def RX9 : String := "SeaWatchesModel"
def TX9 : u_T := fun k => match k with
  | 0 => ("SeaWatchesModel", "code", "I", false)
  | 1 => ("SeaWatchesModel", "today", "I", false)
  | 2 => ("SeaWatchesModel", "warmths", "[I", true)
  | 3 => ("SeaWatchesModel", "kind", "[I", true)
  | 4 => ("SeaWatchesModel", "mark", "[I", true)
  | 5 => ("SeaWatchesModel", "has", "[Z", true)
  | 6 => ("SeaWatchesModel", "errors", "[I", true)
  | 7 => ("SeaWatchesModel", "sources", "[I", true)
  | 8 => ("SeaWatchesModel", "repaired", "[Z", true)
  | 9 => ("SeaWatchesModel", "lateOn", "[Z", true)
  | 10 => ("SeaWatchesModel", "holders", "[I", true)
  | 11 => ("SeaWatchesModel", "offs", "I", false)
  | 12 => ("SeaWatchesModel", "offSignal", "[I", true)
  | 13 => ("SeaWatchesModel", "offFrom", "[I", true)
  | 14 => ("SeaWatchesModel", "offTo", "[I", true)
  | 15 => ("SeaWatchesModel", "offBy", "[I", true)
  | 16 => ("SeaWatchesModel", "offDay", "[I", true)
  | 17 => ("SeaWatchesModel", "many", "J", false)
  | 18 => ("SeaWatchesModel", "sumW", "J", false)
  | 19 => ("SeaWatchesModel", "sumA", "J", false)
  | 20 => ("SeaWatchesModel", "sumR", "J", false)
  | 21 => ("SeaWatchesModel", "sumWW", "J", false)
  | 22 => ("SeaWatchesModel", "sumWA", "J", false)
  | 23 => ("SeaWatchesModel", "sumAA", "J", false)
  | 24 => ("SeaWatchesModel", "sumWR", "J", false)
  | 25 => ("SeaWatchesModel", "sumAR", "J", false)
  | 26 => ("SeaWatchesModel", "upper", "J", false)
  | 27 => ("SeaWatchesModel", "lower", "J", false)
  | 28 => ("SeaWatchesModel", "rates", "I", false)
  | 29 => ("SeaWatchesModel", "rateDay", "[I", true)
  | 30 => ("SeaWatchesModel", "rate", "[I", true)
  | 31 => ("SeaWatchesModel", "sorted", "[I", true)
  | 32 => ("SeaWatchesModel", "tape", "[B", true)
  | 33 => ("SeaWatchesModel", "taped", "I", false)
  | 34 => ("SeaWatchesModel", "hasRule", "[Z", true)
  | 35 => ("SeaWatchesModel", "ruleSize", "[I", true)
  | 36 => ("SeaWatchesModel", "step", "[I", true)
  | 37 => ("SeaWatchesModel", "number", "[I", true)
  | 38 => ("SeaWatchesModel", "laid", "I", false)
  | 39 => ("SeaWatchesModel", "at", "I", false)
  | 40 => ("SeaWatchesModel", "tk", "I", false)
  | 41 => ("SeaWatchesModel", "tkAt", "I", false)
  | 42 => ("SeaWatchesModel", "tkNumber", "I", false)
  | 43 => ("SeaWatchesModel", "wait", "[I", true)
  | 44 => ("SeaWatchesModel", "waits", "I", false)
  | 45 => ("SeaWatchesModel", "pile", "[I", true)
  | 46 => ("SeaWatchesModel", "named", "[I", true)
  | 47 => ("SeaWatchesModel", "shipState", "[I", true)
  | 48 => ("SeaWatchesModel", "sailedOn", "[I", true)
  | 49 => ("SeaWatchesModel", "backAfter", "[I", true)
  | 50 => ("SeaWatchesModel", "carriedAt", "[I", true)
  | 51 => ("SeaWatchesModel", "start", "[I", true)
  | 52 => ("SeaWatchesModel", "going", "[I", true)
  | 53 => ("SeaWatchesModel", "doubts", "[I", true)
  | 54 => ("SeaWatchesModel", "backError", "[I", true)
  | 55 => ("SeaWatchesModel", "sights", "[I", true)
  | 56 => ("SeaWatchesModel", "sightDay", "[I", true)
  | 57 => ("SeaWatchesModel", "shown", "[I", true)
  | 58 => ("SeaWatchesModel", "asks", "[I", true)
  | 59 => ("SeaWatchesModel", "times", "[I", true)
  | 60 => ("SeaWatchesModel", "widths", "[I", true)
  | 61 => ("SeaWatchesModel", "listed", "I", false)
  | 62 => ("SeaWatchesModel", "list", "[I", true)
  | 63 => ("SeaWatchesModel", "dealt", "[I", true)
  | 64 => ("SeaWatchesModel", "dealtMany", "I", false)
  | 65 => ("SeaWatchesModel", "way", "[I", true)
  | 66 => ("SeaWatchesModel", "dealDays", "[I", true)
  | _ => ("SeaWatchesModel", "given", "[I", true)
def tyX9 : Nat → FieldType := fun k => match k with
  | 0 => .int
  | 1 => .int
  | 2 => .array .int
  | 3 => .array .int
  | 4 => .array .int
  | 5 => .array .boolean
  | 6 => .array .int
  | 7 => .array .int
  | 8 => .array .boolean
  | 9 => .array .boolean
  | 10 => .array .int
  | 11 => .int
  | 12 => .array .int
  | 13 => .array .int
  | 14 => .array .int
  | 15 => .array .int
  | 16 => .array .int
  | 17 => .long
  | 18 => .long
  | 19 => .long
  | 20 => .long
  | 21 => .long
  | 22 => .long
  | 23 => .long
  | 24 => .long
  | 25 => .long
  | 26 => .long
  | 27 => .long
  | 28 => .int
  | 29 => .array .int
  | 30 => .array .int
  | 31 => .array .int
  | 32 => .array .byte
  | 33 => .int
  | 34 => .array .boolean
  | 35 => .array .int
  | 36 => .array .int
  | 37 => .array .int
  | 38 => .int
  | 39 => .int
  | 40 => .int
  | 41 => .int
  | 42 => .int
  | 43 => .array .int
  | 44 => .int
  | 45 => .array .int
  | 46 => .array .int
  | 47 => .array .int
  | 48 => .array .int
  | 49 => .array .int
  | 50 => .array .int
  | 51 => .array .int
  | 52 => .array .int
  | 53 => .array .int
  | 54 => .array .int
  | 55 => .array .int
  | 56 => .array .int
  | 57 => .array .int
  | 58 => .array .int
  | 59 => .array .int
  | 60 => .array .int
  | 61 => .int
  | 62 => .array .int
  | 63 => .array .int
  | 64 => .int
  | 65 => .array .int
  | 66 => .array .int
  | _ => .array .int
abbrev wsX90 : List Cond := u_ws RX9 TX9 68
theorem nmX9 : ∀ a, a < 68 → ∀ b, b < 68 → a ≠ b → (TX9 a).2.1 ≠ (TX9 b).2.1 := by decide +kernel
theorem tyX9_ok : ∀ k, k < 68 → parseFieldDescriptor (TX9 k).2.2.1 = some (tyX9 k) := by decide +kernel
abbrev cX0_init : ByteArray := prog_2_method_1_code
def yX0_init : MethodName := ⟨RX0, "<init>", "()V"⟩
abbrev cX0_add : ByteArray := prog_2_method_2_code
def yX0_add : MethodName := ⟨RX0, "add", "(I)V"⟩
abbrev cX0_shareOut : ByteArray := prog_2_method_3_code
def yX0_shareOut : MethodName := ⟨RX0, "shareOut", "(IIII)I"⟩
abbrev cX0_tryFrom : ByteArray := prog_2_method_4_code
def yX0_tryFrom : MethodName := ⟨RX0, "tryFrom", "(II)V"⟩
abbrev cX0_keepIfBetter : ByteArray := prog_2_method_5_code
def yX0_keepIfBetter : MethodName := ⟨RX0, "keepIfBetter", "()V"⟩
abbrev cX0_secondLeast : ByteArray := prog_2_method_6_code
def yX0_secondLeast : MethodName := ⟨RX0, "secondLeast", "(I)I"⟩
abbrev cX1_init : ByteArray := prog_3_method_1_code
def yX1_init : MethodName := ⟨RX1, "<init>", "()V"⟩
abbrev cX1_clear : ByteArray := prog_3_method_2_code
def yX1_clear : MethodName := ⟨RX1, "clear", "()V"⟩
abbrev cX1_add : ByteArray := prog_3_method_3_code
def yX1_add : MethodName := ⟨RX1, "add", "(JJJ)V"⟩
abbrev cX1_size : ByteArray := prog_3_method_4_code
def yX1_size : MethodName := ⟨RX1, "size", "()I"⟩
abbrev cX1_form : ByteArray := prog_3_method_5_code
def yX1_form : MethodName := ⟨RX1, "form", "()I"⟩
abbrev cX1_solve : ByteArray := prog_3_method_6_code
def yX1_solve : MethodName := ⟨RX1, "solve", "()V"⟩
abbrev cX1_setLaw : ByteArray := prog_3_method_7_code
def yX1_setLaw : MethodName := ⟨RX1, "setLaw", "(IJJJ)V"⟩
abbrev cX1_thousandfold : ByteArray := prog_3_method_8_code
def yX1_thousandfold : MethodName := ⟨RX1, "thousandfold", "(II)J"⟩
abbrev cX1_addProduct : ByteArray := prog_3_method_9_code
def yX1_addProduct : MethodName := ⟨RX1, "addProduct", "(JJ)V"⟩
abbrev cX2_init : ByteArray := prog_4_method_1_code
def yX2_init : MethodName := ⟨RX2, "<init>", "()V"⟩
abbrev cX2_add : ByteArray := prog_4_method_2_code
def yX2_add : MethodName := ⟨RX2, "add", "(IIIII)V"⟩
abbrev cX2_sumFor : ByteArray := prog_4_method_3_code
def yX2_sumFor : MethodName := ⟨RX2, "sumFor", "(III)I"⟩
abbrev cX3_init : ByteArray := prog_5_method_1_code
def yX3_init : MethodName := ⟨RX3, "<init>", "()V"⟩
abbrev cX3_gather : ByteArray := prog_5_method_2_code
def yX3_gather : MethodName := ⟨RX3, "gather", "(LSeaWatches$Watch;LSeaWatches$Offs;II)V"⟩
abbrev cX3_least : ByteArray := prog_5_method_3_code
def yX3_least : MethodName := ⟨RX3, "least", "()I"⟩
abbrev cX3_most : ByteArray := prog_5_method_4_code
def yX3_most : MethodName := ⟨RX3, "most", "()I"⟩
abbrev cX3_sum : ByteArray := prog_5_method_5_code
def yX3_sum : MethodName := ⟨RX3, "sum", "()I"⟩
abbrev cX3_drift : ByteArray := prog_5_method_6_code
def yX3_drift : MethodName := ⟨RX3, "drift", "()I"⟩
abbrev cX3_greatestStep : ByteArray := prog_5_method_7_code
def yX3_greatestStep : MethodName := ⟨RX3, "greatestStep", "()I"⟩
abbrev cX3_dayFarthestOff : ByteArray := prog_5_method_8_code
def yX3_dayFarthestOff : MethodName := ⟨RX3, "dayFarthestOff", "(I)I"⟩
abbrev cX3_middleOne : ByteArray := prog_5_method_9_code
def yX3_middleOne : MethodName := ⟨RX3, "middleOne", "()I"⟩
abbrev cX4_init : ByteArray := prog_6_method_1_code
def yX4_init : MethodName := ⟨RX4, "<init>", "()V"⟩
abbrev cX4_add : ByteArray := prog_6_method_2_code
def yX4_add : MethodName := ⟨RX4, "add", "(II)V"⟩
abbrev cX4_workOut : ByteArray := prog_6_method_3_code
def yX4_workOut : MethodName := ⟨RX4, "workOut", "([I)I"⟩
abbrev cX4_isAhead : ByteArray := prog_6_method_4_code
def yX4_isAhead : MethodName := ⟨RX4, "isAhead", "(I)Z"⟩
abbrev cX4_workOutOne : ByteArray := prog_6_method_5_code
def yX4_workOutOne : MethodName := ⟨RX4, "workOutOne", "(II)I"⟩
abbrev cX4_workOutTwo : ByteArray := prog_6_method_6_code
def yX4_workOutTwo : MethodName := ⟨RX4, "workOutTwo", "(III)I"⟩
abbrev cX5_init : ByteArray := prog_7_method_1_code
def yX5_init : MethodName := ⟨RX5, "<init>", "()V"⟩
abbrev cX5_leave : ByteArray := prog_7_method_2_code
def yX5_leave : MethodName := ⟨RX5, "leave", "(I)V"⟩
abbrev cX5_carry : ByteArray := prog_7_method_3_code
def yX5_carry : MethodName := ⟨RX5, "carry", "(IIIII)V"⟩
abbrev cX5_comeBack : ByteArray := prog_7_method_4_code
def yX5_comeBack : MethodName := ⟨RX5, "comeBack", "(I)V"⟩
abbrev cX5_mayBeSighted : ByteArray := prog_7_method_5_code
def yX5_mayBeSighted : MethodName := ⟨RX5, "mayBeSighted", "(I)Z"⟩
abbrev cX5_addSight : ByteArray := prog_7_method_6_code
def yX5_addSight : MethodName := ⟨RX5, "addSight", "(IIII)I"⟩
abbrev cX5_isOf : ByteArray := prog_7_method_7_code
def yX5_isOf : MethodName := ⟨RX5, "isOf", "(II)Z"⟩
abbrev cX5_daysSince : ByteArray := prog_7_method_8_code
def yX5_daysSince : MethodName := ⟨RX5, "daysSince", "(I)I"⟩
abbrev cX5_timeOf : ByteArray := prog_7_method_9_code
def yX5_timeOf : MethodName := ⟨RX5, "timeOf", "(II)I"⟩
abbrev cX5_widthOf : ByteArray := prog_7_method_10_code
def yX5_widthOf : MethodName := ⟨RX5, "widthOf", "(II)I"⟩
abbrev cX5_offFromOthers : ByteArray := prog_7_method_11_code
def yX5_offFromOthers : MethodName := ⟨RX5, "offFromOthers", "(II)I"⟩
abbrev cX5_beginOf : ByteArray := prog_7_method_12_code
def yX5_beginOf : MethodName := ⟨RX5, "beginOf", "(II)I"⟩
abbrev cX5_endOf : ByteArray := prog_7_method_13_code
def yX5_endOf : MethodName := ⟨RX5, "endOf", "(II)I"⟩
abbrev cX6_init : ByteArray := prog_8_method_1_code
def yX6_init : MethodName := ⟨RX6, "<init>", "()V"⟩
abbrev cX6_add : ByteArray := prog_8_method_2_code
def yX6_add : MethodName := ⟨RX6, "add", "(I)V"⟩
abbrev cX6_readAsRule : ByteArray := prog_8_method_3_code
def yX6_readAsRule : MethodName := ⟨RX6, "readAsRule", "(Ljava/lang/String;)I"⟩
abbrev cX6_exchangeRule : ByteArray := prog_8_method_4_code
def yX6_exchangeRule : MethodName := ⟨RX6, "exchangeRule", "(LSeaWatches$Rule;)LSeaWatches$Rule;"⟩
abbrev cX6_readEither : ByteArray := prog_8_method_5_code
def yX6_readEither : MethodName := ⟨RX6, "readEither", "(I)Z"⟩
abbrev cX6_readBoth : ByteArray := prog_8_method_6_code
def yX6_readBoth : MethodName := ⟨RX6, "readBoth", "(I)Z"⟩
abbrev cX6_readNegation : ByteArray := prog_8_method_7_code
def yX6_readNegation : MethodName := ⟨RX6, "readNegation", "(I)Z"⟩
abbrev cX6_readComparison : ByteArray := prog_8_method_8_code
def yX6_readComparison : MethodName := ⟨RX6, "readComparison", "(I)Z"⟩
abbrev cX6_readSum : ByteArray := prog_8_method_9_code
def yX6_readSum : MethodName := ⟨RX6, "readSum", "(I)Z"⟩
abbrev cX6_readProduct : ByteArray := prog_8_method_10_code
def yX6_readProduct : MethodName := ⟨RX6, "readProduct", "(I)Z"⟩
abbrev cX6_readOperand : ByteArray := prog_8_method_11_code
def yX6_readOperand : MethodName := ⟨RX6, "readOperand", "(I)Z"⟩
abbrev cX6_readInBrackets : ByteArray := prog_8_method_12_code
def yX6_readInBrackets : MethodName := ⟨RX6, "readInBrackets", "(I)Z"⟩
abbrev cX6_goOn : ByteArray := prog_8_method_13_code
def yX6_goOn : MethodName := ⟨RX6, "goOn", "()V"⟩
abbrev cX6_takeLetters : ByteArray := prog_8_method_14_code
def yX6_takeLetters : MethodName := ⟨RX6, "takeLetters", "()V"⟩
abbrev cX6_takeDigits : ByteArray := prog_8_method_15_code
def yX6_takeDigits : MethodName := ⟨RX6, "takeDigits", "()V"⟩
abbrev cX6_placeAmongWords : ByteArray := prog_8_method_16_code
def yX6_placeAmongWords : MethodName := ⟨RX6, "placeAmongWords", "()I"⟩
abbrev cX6_isOnTape : ByteArray := prog_8_method_17_code
def yX6_isOnTape : MethodName := ⟨RX6, "isOnTape", "(II)Z"⟩
abbrev cX6_isLetter : ByteArray := prog_8_method_18_code
def yX6_isLetter : MethodName := ⟨RX6, "isLetter", "(I)Z"⟩
abbrev cX6_isDigit : ByteArray := prog_8_method_19_code
def yX6_isDigit : MethodName := ⟨RX6, "isDigit", "(I)Z"⟩
abbrev cX6_isSign : ByteArray := prog_8_method_20_code
def yX6_isSign : MethodName := ⟨RX6, "isSign", "(I)Z"⟩
abbrev cX7_init : ByteArray := prog_9_method_1_code
def yX7_init : MethodName := ⟨RX7, "<init>", "()V"⟩
abbrev cX7_becomeNew : ByteArray := prog_9_method_2_code
def yX7_becomeNew : MethodName := ⟨RX7, "becomeNew", "()V"⟩
abbrev cX7_isCompared : ByteArray := prog_9_method_3_code
def yX7_isCompared : MethodName := ⟨RX7, "isCompared", "(I)Z"⟩
abbrev cX7_tell : ByteArray := prog_9_method_4_code
def yX7_tell : MethodName := ⟨RX7, "tell", "(III)V"⟩
abbrev cX7_errorAsKnown : ByteArray := prog_9_method_5_code
def yX7_errorAsKnown : MethodName := ⟨RX7, "errorAsKnown", "(ILSeaWatches$Offs;I)I"⟩
abbrev cX7_rateAsKnown : ByteArray := prog_9_method_6_code
def yX7_rateAsKnown : MethodName := ⟨RX7, "rateAsKnown", "(ILSeaWatches$Offs;I)I"⟩
abbrev cX7_rateBetween : ByteArray := prog_9_method_7_code
def yX7_rateBetween : MethodName := ⟨RX7, "rateBetween", "(III)I"⟩
abbrev cX7_isMarked : ByteArray := prog_9_method_8_code
def yX7_isMarked : MethodName := ⟨RX7, "isMarked", "(II)Z"⟩
abbrev cX7_addMark : ByteArray := prog_9_method_9_code
def yX7_addMark : MethodName := ⟨RX7, "addMark", "(II)Z"⟩
abbrev cX7_ageOn : ByteArray := prog_9_method_10_code
def yX7_ageOn : MethodName := ⟨RX7, "ageOn", "(I)I"⟩
abbrev cX7_holderOn : ByteArray := prog_9_method_11_code
def yX7_holderOn : MethodName := ⟨RX7, "holderOn", "(I)I"⟩
abbrev cX7_giveTo : ByteArray := prog_9_method_12_code
def yX7_giveTo : MethodName := ⟨RX7, "giveTo", "(II)V"⟩
abbrev cX7_daysAway : ByteArray := prog_9_method_13_code
def yX7_daysAway : MethodName := ⟨RX7, "daysAway", "(I)I"⟩
abbrev cX8_init : ByteArray := prog_1_method_1_code
def yX8_init : MethodName := ⟨RX8, "<init>", "()V"⟩
abbrev cX8_days : ByteArray := prog_1_method_2_code
def yX8_days : MethodName := ⟨RX8, "days", "(I)I"⟩
abbrev cX8_warmth : ByteArray := prog_1_method_3_code
def yX8_warmth : MethodName := ⟨RX8, "warmth", "(II)I"⟩
abbrev cX8_put : ByteArray := prog_1_method_4_code
def yX8_put : MethodName := ⟨RX8, "put", "(III)I"⟩
abbrev cX8_take : ByteArray := prog_1_method_5_code
def yX8_take : MethodName := ⟨RX8, "take", "(I)I"⟩
abbrev cX8_holds : ByteArray := prog_1_method_6_code
def yX8_holds : MethodName := ⟨RX8, "holds", "(I)I"⟩
abbrev cX8_read : ByteArray := prog_1_method_7_code
def yX8_read : MethodName := ⟨RX8, "read", "(I)I"⟩
abbrev cX8_compare : ByteArray := prog_1_method_8_code
def yX8_compare : MethodName := ⟨RX8, "compare", "(IIII)I"⟩
abbrev cX8_error : ByteArray := prog_1_method_9_code
def yX8_error : MethodName := ⟨RX8, "error", "(III)I"⟩
abbrev cX8_rate : ByteArray := prog_1_method_10_code
def yX8_rate : MethodName := ⟨RX8, "rate", "(III)I"⟩
abbrev cX8_repair : ByteArray := prog_1_method_11_code
def yX8_repair : MethodName := ⟨RX8, "repair", "(II)I"⟩
abbrev cX8_late : ByteArray := prog_1_method_12_code
def yX8_late : MethodName := ⟨RX8, "late", "(II)I"⟩
abbrev cX8_age : ByteArray := prog_1_method_13_code
def yX8_age : MethodName := ⟨RX8, "age", "(II)I"⟩
abbrev cX8_off : ByteArray := prog_1_method_14_code
def yX8_off : MethodName := ⟨RX8, "off", "(IIII)I"⟩
abbrev cX8_changed : ByteArray := prog_1_method_15_code
def yX8_changed : MethodName := ⟨RX8, "changed", "(IIII)I"⟩
abbrev cX8_law : ByteArray := prog_1_method_16_code
def yX8_law : MethodName := ⟨RX8, "law", "(III)I"⟩
abbrev cX8_terms : ByteArray := prog_1_method_17_code
def yX8_terms : MethodName := ⟨RX8, "terms", "(III)I"⟩
abbrev cX8_foretold : ByteArray := prog_1_method_18_code
def yX8_foretold : MethodName := ⟨RX8, "foretold", "(IIIII)I"⟩
abbrev cX8_jump : ByteArray := prog_1_method_19_code
def yX8_jump : MethodName := ⟨RX8, "jump", "(IIII)I"⟩
abbrev cX8_feed : ByteArray := prog_1_method_20_code
def yX8_feed : MethodName := ⟨RX8, "feed", "(II)I"⟩
abbrev cX8_rule : ByteArray := prog_1_method_21_code
def yX8_rule : MethodName := ⟨RX8, "rule", "(I)I"⟩
abbrev cX8_trial : ByteArray := prog_1_method_22_code
def yX8_trial : MethodName := ⟨RX8, "trial", "(III)I"⟩
abbrev cX8_order : ByteArray := prog_1_method_23_code
def yX8_order : MethodName := ⟨RX8, "order", "(III)I"⟩
abbrev cX8_sail : ByteArray := prog_1_method_24_code
def yX8_sail : MethodName := ⟨RX8, "sail", "(IIII)I"⟩
abbrev cX8_carried : ByteArray := prog_1_method_25_code
def yX8_carried : MethodName := ⟨RX8, "carried", "(III)I"⟩
abbrev cX8_sight : ByteArray := prog_1_method_26_code
def yX8_sight : MethodName := ⟨RX8, "sight", "(IIIII)I"⟩
abbrev cX8_told : ByteArray := prog_1_method_27_code
def yX8_told : MethodName := ⟨RX8, "told", "(III)I"⟩
abbrev cX8_back : ByteArray := prog_1_method_28_code
def yX8_back : MethodName := ⟨RX8, "back", "(IIII)I"⟩
abbrev cX8_state : ByteArray := prog_1_method_29_code
def yX8_state : MethodName := ⟨RX8, "state", "(I)I"⟩
abbrev cX8_doubt : ByteArray := prog_1_method_30_code
def yX8_doubt : MethodName := ⟨RX8, "doubt", "(I)I"⟩
abbrev cX8_deal : ByteArray := prog_1_method_31_code
def yX8_deal : MethodName := ⟨RX8, "deal", "(III)I"⟩
abbrev cX8_dealt : ByteArray := prog_1_method_32_code
def yX8_dealt : MethodName := ⟨RX8, "dealt", "(I)I"⟩
abbrev cX8_lend : ByteArray := prog_1_method_33_code
def yX8_lend : MethodName := ⟨RX8, "lend", "(II)I"⟩
abbrev cX8_home : ByteArray := prog_1_method_34_code
def yX8_home : MethodName := ⟨RX8, "home", "(I)I"⟩
abbrev cX8_holder : ByteArray := prog_1_method_35_code
def yX8_holder : MethodName := ⟨RX8, "holder", "(II)I"⟩
abbrev cX8_away : ByteArray := prog_1_method_36_code
def yX8_away : MethodName := ⟨RX8, "away", "(I)I"⟩
abbrev cX8_count : ByteArray := prog_1_method_37_code
def yX8_count : MethodName := ⟨RX8, "count", "(I)I"⟩
abbrev cX8_isDay : ByteArray := prog_1_method_38_code
def yX8_isDay : MethodName := ⟨RX8, "isDay", "(I)Z"⟩
abbrev cX8_isPast : ByteArray := prog_1_method_39_code
def yX8_isPast : MethodName := ⟨RX8, "isPast", "(I)Z"⟩
abbrev cX8_isKnowledge : ByteArray := prog_1_method_40_code
def yX8_isKnowledge : MethodName := ⟨RX8, "isKnowledge", "(I)Z"⟩
abbrev cX8_isPlace : ByteArray := prog_1_method_41_code
def yX8_isPlace : MethodName := ⟨RX8, "isPlace", "(I)Z"⟩
abbrev cX8_isShip : ByteArray := prog_1_method_42_code
def yX8_isShip : MethodName := ⟨RX8, "isShip", "(I)Z"⟩
abbrev cX8_isWithin : ByteArray := prog_1_method_43_code
def yX8_isWithin : MethodName := ⟨RX8, "isWithin", "(II)Z"⟩
abbrev cX8_isStretch : ByteArray := prog_1_method_44_code
def yX8_isStretch : MethodName := ⟨RX8, "isStretch", "(II)Z"⟩
abbrev cX8_fitsKind : ByteArray := prog_1_method_45_code
def yX8_fitsKind : MethodName := ⟨RX8, "fitsKind", "(II)Z"⟩
abbrev cX8_watchAt : ByteArray := prog_1_method_46_code
def yX8_watchAt : MethodName := ⟨RX8, "watchAt", "(I)LSeaWatches$Watch;"⟩
abbrev cX8_lackAt : ByteArray := prog_1_method_47_code
def yX8_lackAt : MethodName := ⟨RX8, "lackAt", "(I)I"⟩
abbrev cX8_firstLack : ByteArray := prog_1_method_48_code
def yX8_firstLack : MethodName := ⟨RX8, "firstLack", "(III)I"⟩
abbrev cX8_refusalOfStretch : ByteArray := prog_1_method_49_code
def yX8_refusalOfStretch : MethodName := ⟨RX8, "refusalOfStretch", "(III)I"⟩
abbrev cX8_bringWatch : ByteArray := prog_1_method_50_code
def yX8_bringWatch : MethodName := ⟨RX8, "bringWatch", "(I)V"⟩
abbrev cX8_markOn : ByteArray := prog_1_method_51_code
def yX8_markOn : MethodName := ⟨RX8, "markOn", "(III)I"⟩
abbrev cX8_warmthFor : ByteArray := prog_1_method_52_code
def yX8_warmthFor : MethodName := ⟨RX8, "warmthFor", "(II)I"⟩
abbrev cX8_placesWith : ByteArray := prog_1_method_53_code
def yX8_placesWith : MethodName := ⟨RX8, "placesWith", "(I)I"⟩
abbrev cX8_shipsAtSea : ByteArray := prog_1_method_54_code
def yX8_shipsAtSea : MethodName := ⟨RX8, "shipsAtSea", "()I"⟩
abbrev cX8_fitLaw : ByteArray := prog_1_method_55_code
def yX8_fitLaw : MethodName := ⟨RX8, "fitLaw", "(III)V"⟩
abbrev cX8_hasTrial : ByteArray := prog_1_method_56_code
def yX8_hasTrial : MethodName := ⟨RX8, "hasTrial", "(III)Z"⟩
abbrev cX8_workOutTrial : ByteArray := prog_1_method_57_code
def yX8_workOutTrial : MethodName := ⟨RX8, "workOutTrial", "(II)I"⟩
abbrev cX8_warmthSpan : ByteArray := prog_1_method_58_code
def yX8_warmthSpan : MethodName := ⟨RX8, "warmthSpan", "(I)I"⟩
abbrev cX8_gatherBeforeSailing : ByteArray := prog_1_method_59_code
def yX8_gatherBeforeSailing : MethodName := ⟨RX8, "gatherBeforeSailing", "(LSeaWatches$Watch;)V"⟩
abbrev cX8_isFitToSail : ByteArray := prog_1_method_60_code
def yX8_isFitToSail : MethodName := ⟨RX8, "isFitToSail", "(I)Z"⟩
abbrev cX8_board : ByteArray := prog_1_method_61_code
def yX8_board : MethodName := ⟨RX8, "board", "(III)V"⟩
abbrev cX8_unload : ByteArray := prog_1_method_62_code
def yX8_unload : MethodName := ⟨RX8, "unload", "(LSeaWatches$Ship;II)V"⟩
abbrev cX8_droppedOf : ByteArray := prog_1_method_63_code
def yX8_droppedOf : MethodName := ⟨RX8, "droppedOf", "(LSeaWatches$Ship;I)I"⟩
abbrev cX9_in : ByteArray := prog_11_method_2_code
def yX9_in : MethodName := ⟨RX9, "in", "(III)Z"⟩
abbrev cX9_size : ByteArray := prog_11_method_3_code
def yX9_size : MethodName := ⟨RX9, "size", "(I)I"⟩
abbrev cX9_floor : ByteArray := prog_11_method_4_code
def yX9_floor : MethodName := ⟨RX9, "floor", "(JJ)J"⟩
abbrev cX9_init : ByteArray := prog_11_method_5_code
def yX9_init : MethodName := ⟨RX9, "<init>", "()V"⟩
abbrev cX9_isPlace : ByteArray := prog_11_method_6_code
def yX9_isPlace : MethodName := ⟨RX9, "isPlace", "(I)Z"⟩
abbrev cX9_isDay : ByteArray := prog_11_method_7_code
def yX9_isDay : MethodName := ⟨RX9, "isDay", "(I)Z"⟩
abbrev cX9_isWatch : ByteArray := prog_11_method_8_code
def yX9_isWatch : MethodName := ⟨RX9, "isWatch", "(I)Z"⟩
abbrev cX9_watchAt : ByteArray := prog_11_method_9_code
def yX9_watchAt : MethodName := ⟨RX9, "watchAt", "(I)I"⟩
abbrev cX9_days : ByteArray := prog_11_method_10_code
def yX9_days : MethodName := ⟨RX9, "days", "(I)I"⟩
abbrev cX9_warmth : ByteArray := prog_11_method_11_code
def yX9_warmth : MethodName := ⟨RX9, "warmth", "(II)I"⟩
abbrev cX9_put : ByteArray := prog_11_method_12_code
def yX9_put : MethodName := ⟨RX9, "put", "(III)I"⟩
abbrev cX9_holderNow : ByteArray := prog_11_method_13_code
def yX9_holderNow : MethodName := ⟨RX9, "holderNow", "(I)I"⟩
abbrev cX9_take : ByteArray := prog_11_method_14_code
def yX9_take : MethodName := ⟨RX9, "take", "(I)I"⟩
abbrev cX9_holds : ByteArray := prog_11_method_15_code
def yX9_holds : MethodName := ⟨RX9, "holds", "(I)I"⟩
abbrev cX9_read : ByteArray := prog_11_method_16_code
def yX9_read : MethodName := ⟨RX9, "read", "(I)I"⟩
abbrev cX9_compare : ByteArray := prog_11_method_17_code
def yX9_compare : MethodName := ⟨RX9, "compare", "(IIII)I"⟩
abbrev cX9_errorOf : ByteArray := prog_11_method_18_code
def yX9_errorOf : MethodName := ⟨RX9, "errorOf", "(III)I"⟩
abbrev cX9_rateOf : ByteArray := prog_11_method_19_code
def yX9_rateOf : MethodName := ⟨RX9, "rateOf", "(III)I"⟩
abbrev cX9_isKnown : ByteArray := prog_11_method_20_code
def yX9_isKnown : MethodName := ⟨RX9, "isKnown", "(I)Z"⟩
abbrev cX9_error : ByteArray := prog_11_method_21_code
def yX9_error : MethodName := ⟨RX9, "error", "(III)I"⟩
abbrev cX9_rate : ByteArray := prog_11_method_22_code
def yX9_rate : MethodName := ⟨RX9, "rate", "(III)I"⟩
abbrev cX9_repair : ByteArray := prog_11_method_23_code
def yX9_repair : MethodName := ⟨RX9, "repair", "(II)I"⟩
abbrev cX9_late : ByteArray := prog_11_method_24_code
def yX9_late : MethodName := ⟨RX9, "late", "(II)I"⟩
abbrev cX9_ageOf : ByteArray := prog_11_method_25_code
def yX9_ageOf : MethodName := ⟨RX9, "ageOf", "(II)I"⟩
abbrev cX9_age : ByteArray := prog_11_method_26_code
def yX9_age : MethodName := ⟨RX9, "age", "(II)I"⟩
abbrev cX9_off : ByteArray := prog_11_method_27_code
def yX9_off : MethodName := ⟨RX9, "off", "(IIII)I"⟩
abbrev cX9_areDays : ByteArray := prog_11_method_28_code
def yX9_areDays : MethodName := ⟨RX9, "areDays", "(II)Z"⟩
abbrev cX9_changed : ByteArray := prog_11_method_29_code
def yX9_changed : MethodName := ⟨RX9, "changed", "(IIII)I"⟩
abbrev cX9_warmthOf : ByteArray := prog_11_method_30_code
def yX9_warmthOf : MethodName := ⟨RX9, "warmthOf", "(II)I"⟩
abbrev cX9_sumUp : ByteArray := prog_11_method_31_code
def yX9_sumUp : MethodName := ⟨RX9, "sumUp", "(III)V"⟩
abbrev cX9_three : ByteArray := prog_11_method_32_code
def yX9_three : MethodName := ⟨RX9, "three", "()J"⟩
abbrev cX9_two : ByteArray := prog_11_method_33_code
def yX9_two : MethodName := ⟨RX9, "two", "(JJ)J"⟩
abbrev cX9_termsNow : ByteArray := prog_11_method_34_code
def yX9_termsNow : MethodName := ⟨RX9, "termsNow", "()I"⟩
abbrev cX9_asked : ByteArray := prog_11_method_35_code
def yX9_asked : MethodName := ⟨RX9, "asked", "(III)I"⟩
abbrev cX9_law : ByteArray := prog_11_method_36_code
def yX9_law : MethodName := ⟨RX9, "law", "(III)I"⟩
abbrev cX9_terms : ByteArray := prog_11_method_37_code
def yX9_terms : MethodName := ⟨RX9, "terms", "(III)I"⟩
abbrev cX9_byTwo : ByteArray := prog_11_method_38_code
def yX9_byTwo : MethodName := ⟨RX9, "byTwo", "(JJJJ)V"⟩
abbrev cX9_byThree : ByteArray := prog_11_method_39_code
def yX9_byThree : MethodName := ⟨RX9, "byThree", "(JJ)V"⟩
abbrev cX9_foretold : ByteArray := prog_11_method_40_code
def yX9_foretold : MethodName := ⟨RX9, "foretold", "(IIIII)I"⟩
abbrev cX9_findRates : ByteArray := prog_11_method_41_code
def yX9_findRates : MethodName := ⟨RX9, "findRates", "(III)V"⟩
abbrev cX9_jump : ByteArray := prog_11_method_42_code
def yX9_jump : MethodName := ⟨RX9, "jump", "(IIII)I"⟩
abbrev cX9_feed : ByteArray := prog_11_method_43_code
def yX9_feed : MethodName := ⟨RX9, "feed", "(II)I"⟩
abbrev cX9_isLetter : ByteArray := prog_11_method_44_code
def yX9_isLetter : MethodName := ⟨RX9, "isLetter", "(I)Z"⟩
abbrev cX9_isDigit : ByteArray := prog_11_method_45_code
def yX9_isDigit : MethodName := ⟨RX9, "isDigit", "(I)Z"⟩
abbrev cX9_advance : ByteArray := prog_11_method_46_code
def yX9_advance : MethodName := ⟨RX9, "advance", "(I)V"⟩
abbrev cX9_signOf : ByteArray := prog_11_method_47_code
def yX9_signOf : MethodName := ⟨RX9, "signOf", "(I)I"⟩
abbrev cX9_wordOf : ByteArray := prog_11_method_48_code
def yX9_wordOf : MethodName := ⟨RX9, "wordOf", "(JI)I"⟩
abbrev cX9_tight : ByteArray := prog_11_method_49_code
def yX9_tight : MethodName := ⟨RX9, "tight", "(I)I"⟩
abbrev cX9_lay : ByteArray := prog_11_method_50_code
def yX9_lay : MethodName := ⟨RX9, "lay", "(II)V"⟩
abbrev cX9_done : ByteArray := prog_11_method_51_code
def yX9_done : MethodName := ⟨RX9, "done", "(I)V"⟩
abbrev cX9_opened : ByteArray := prog_11_method_52_code
def yX9_opened : MethodName := ⟨RX9, "opened", "()I"⟩
abbrev cX9_readRule : ByteArray := prog_11_method_53_code
def yX9_readRule : MethodName := ⟨RX9, "readRule", "(I)I"⟩
abbrev cX9_rule : ByteArray := prog_11_method_54_code
def yX9_rule : MethodName := ⟨RX9, "rule", "(I)I"⟩
abbrev cX9_both : ByteArray := prog_11_method_55_code
def yX9_both : MethodName := ⟨RX9, "both", "(III)I"⟩
abbrev cX9_says : ByteArray := prog_11_method_56_code
def yX9_says : MethodName := ⟨RX9, "says", "(I)I"⟩
abbrev cX9_trialOf : ByteArray := prog_11_method_57_code
def yX9_trialOf : MethodName := ⟨RX9, "trialOf", "(III)I"⟩
abbrev cX9_hasTrial : ByteArray := prog_11_method_58_code
def yX9_hasTrial : MethodName := ⟨RX9, "hasTrial", "(III)Z"⟩
abbrev cX9_trial : ByteArray := prog_11_method_59_code
def yX9_trial : MethodName := ⟨RX9, "trial", "(III)I"⟩
abbrev cX9_order : ByteArray := prog_11_method_60_code
def yX9_order : MethodName := ⟨RX9, "order", "(III)I"⟩
abbrev cX9_isShip : ByteArray := prog_11_method_61_code
def yX9_isShip : MethodName := ⟨RX9, "isShip", "(I)Z"⟩
abbrev cX9_goesTo : ByteArray := prog_11_method_62_code
def yX9_goesTo : MethodName := ⟨RX9, "goesTo", "(II)V"⟩
abbrev cX9_maySail : ByteArray := prog_11_method_63_code
def yX9_maySail : MethodName := ⟨RX9, "maySail", "(I)Z"⟩
abbrev cX9_sail : ByteArray := prog_11_method_64_code
def yX9_sail : MethodName := ⟨RX9, "sail", "(IIII)I"⟩
abbrev cX9_carried : ByteArray := prog_11_method_65_code
def yX9_carried : MethodName := ⟨RX9, "carried", "(III)I"⟩
abbrev cX9_isShown : ByteArray := prog_11_method_66_code
def yX9_isShown : MethodName := ⟨RX9, "isShown", "(I)Z"⟩
abbrev cX9_sight : ByteArray := prog_11_method_67_code
def yX9_sight : MethodName := ⟨RX9, "sight", "(IIIII)I"⟩
abbrev cX9_work : ByteArray := prog_11_method_68_code
def yX9_work : MethodName := ⟨RX9, "work", "(II)I"⟩
abbrev cX9_told : ByteArray := prog_11_method_69_code
def yX9_told : MethodName := ⟨RX9, "told", "(III)I"⟩
abbrev cX9_back : ByteArray := prog_11_method_70_code
def yX9_back : MethodName := ⟨RX9, "back", "(IIII)I"⟩
abbrev cX9_state : ByteArray := prog_11_method_71_code
def yX9_state : MethodName := ⟨RX9, "state", "(I)I"⟩
abbrev cX9_doubt : ByteArray := prog_11_method_72_code
def yX9_doubt : MethodName := ⟨RX9, "doubt", "(I)I"⟩
abbrev cX9_secondOf : ByteArray := prog_11_method_73_code
def yX9_secondOf : MethodName := ⟨RX9, "secondOf", "(I)I"⟩
abbrev cX9_isWay : ByteArray := prog_11_method_74_code
def yX9_isWay : MethodName := ⟨RX9, "isWay", "(I)Z"⟩
abbrev cX9_deal : ByteArray := prog_11_method_75_code
def yX9_deal : MethodName := ⟨RX9, "deal", "(III)I"⟩
abbrev cX9_dealt : ByteArray := prog_11_method_76_code
def yX9_dealt : MethodName := ⟨RX9, "dealt", "(I)I"⟩
abbrev cX9_lend : ByteArray := prog_11_method_77_code
def yX9_lend : MethodName := ⟨RX9, "lend", "(II)I"⟩
abbrev cX9_home : ByteArray := prog_11_method_78_code
def yX9_home : MethodName := ⟨RX9, "home", "(I)I"⟩
abbrev cX9_holder : ByteArray := prog_11_method_79_code
def yX9_holder : MethodName := ⟨RX9, "holder", "(II)I"⟩
abbrev cX9_away : ByteArray := prog_11_method_80_code
def yX9_away : MethodName := ⟨RX9, "away", "(I)I"⟩
abbrev cX9_count : ByteArray := prog_11_method_81_code
def yX9_count : MethodName := ⟨RX9, "count", "(I)I"⟩
abbrev vwCl : List vw_C := [(RX0, TX0, 9), (RX1, TX1, 15), (RX2, TX2, 6), (RX3, TX3, 4), (RX4, TX4, 4), (RX5, TX5, 11), (RX6, TX6, 8), (RX7, TX7, 4), (RX8, TX8, 14), (RX9, TX9, 68)]
/-- the words that a method may use: those of the tables that are kept over calls -/
def tb : List Cond := lw_tbl.filter goodWord
theorem tb_in {w : Cond} (h : w ∈ tb) : w ∈ lw_tbl := (List.mem_filter.mp h).1
theorem gW {ws : List Cond} (h : ∀ w ∈ ws, w ∈ tb) : GoodIn tb ws := fun w hw => ⟨h w hw, good_of_word (List.mem_filter.mp (h w hw)).2⟩
theorem tb_t {w : Cond} (i : Nat) (h : tables_1[i]? = some w) (hg : goodWord w = true) : w ∈ tb := List.mem_filter.mpr ⟨List.mem_append_right _ (List.mem_of_getElem? h), hg⟩
theorem tb_s {w : Cond} (i : Nat) (h : (k2_sels lw_privs)[i]? = some w) (hg : goodWord w = true) : w ∈ tb := List.mem_filter.mpr ⟨List.mem_append_left _ (List.mem_of_getElem? h), hg⟩
theorem lw_t {w : Cond} (i : Nat) (h : tables_1[i]? = some w) : w ∈ lw_tbl := List.mem_append_right _ (List.mem_of_getElem? h)
theorem tb_r {ws : List Cond} (ps : List Nat) (hp : ws = ps.filterMap (fun i => tables_1[i]?)) (hg : ws.all goodWord = true) : ∀ w ∈ ws, w ∈ tb := by
  intro w hw
  have h1 := List.all_eq_true.mp hg w hw
  rw [hp] at hw
  obtain ⟨i, -, hi⟩ := List.mem_filterMap.mp hw
  exact tb_t i hi h1
theorem iX0 : ∀ w ∈ wsX00, w ∈ tb := tb_r [202, 204, 206, 208, 210, 212, 214, 216, 218] (by decide +kernel) (by decide +kernel)
theorem iX1 : ∀ w ∈ wsX10, w ∈ tb := tb_r [98, 100, 102, 104, 106, 108, 110, 112, 114, 116, 118, 120, 122, 124, 126] (by decide +kernel) (by decide +kernel)
theorem iX2 : ∀ w ∈ wsX20, w ∈ tb := tb_r [41, 43, 45, 47, 49, 51] (by decide +kernel) (by decide +kernel)
theorem iX3 : ∀ w ∈ wsX30, w ∈ tb := tb_r [68, 70, 72, 74] (by decide +kernel) (by decide +kernel)
theorem iX4 : ∀ w ∈ wsX40, w ∈ tb := tb_r [147, 149, 151, 153] (by decide +kernel) (by decide +kernel)
theorem iX5 : ∀ w ∈ wsX50, w ∈ tb := tb_r [249, 251, 253, 255, 257, 259, 261, 263, 265, 267, 269] (by decide +kernel) (by decide +kernel)
theorem iX6 : ∀ w ∈ wsX60, w ∈ tb := tb_r [166, 168, 170, 172, 174, 176, 178, 180] (by decide +kernel) (by decide +kernel)
theorem iX7 : ∀ w ∈ wsX70, w ∈ tb := tb_r [352, 354, 356, 358] (by decide +kernel) (by decide +kernel)
theorem iX8 : ∀ w ∈ wsX80, w ∈ tb := tb_r [286, 288, 290, 292, 294, 296, 298, 300, 302, 304, 306, 308, 310, 312] (by decide +kernel) (by decide +kernel)
theorem iX9 : ∀ w ∈ wsX90, w ∈ tb := tb_r [1026, 1028, 1030, 1032, 1034, 1036, 1038, 1040, 1042, 1044, 1046, 1048, 1050, 1052, 1054, 1056, 1058, 1060, 1062, 1064, 1066, 1068, 1070, 1072, 1074, 1076, 1078, 1080, 1082, 1084, 1086, 1088, 1090, 1092, 1094, 1096, 1098, 1100, 1102, 1104, 1106, 1108, 1110, 1112, 1114, 1116, 1118, 1120, 1122, 1124, 1126, 1128, 1130, 1132, 1134, 1136, 1138, 1140, 1142, 1144, 1146, 1148, 1150, 1152, 1154, 1156, 1158, 1160] (by decide +kernel) (by decide +kernel)
end
section
/-! ===== the context of all contracts: classes and array classes (E 0 int, E 1 boolean, E 2 byte, E 3 Watch, E 4 Ship), links between nest mates, strings (E 5, E 6, E 7) ===== -/
abbrev TY (E : Nat → Nat) : List (ClassId × FieldType) := [(E 0, .int), (E 1, .boolean), (E 2, .byte), (E 3, .object "SeaWatches$Watch"), (E 4, .object "SeaWatches$Ship")]
def nestW : List Cond := [.methodLinkNest RX8 36 yX2_init RX8, .fieldLinkNest RX8 142 "SeaWatches$Offs" "size" "I" "SeaWatches", .methodLinkNest RX8 43 yX3_init RX8, .fieldLinkNest RX8 312 "SeaWatches$Rates" "days" "[I" "SeaWatches", .fieldLinkNest RX8 318 "SeaWatches$Rates" "values" "[I" "SeaWatches", .fieldLinkNest RX8 311 "SeaWatches$Rates" "size" "I" "SeaWatches", .methodLinkNest RX8 50 yX1_init RX8, .methodLinkNest RX8 57 yX6_init RX8, .methodLinkNest RX6 21 yX4_init RX8, .fieldLinkNest RX6 44 "SeaWatches$Rule" "size" "I" "SeaWatches", .fieldLinkNest RX8 327 "SeaWatches$Rule" "size" "I" "SeaWatches", .fieldLinkNest RX8 179 "SeaWatches$Tape" "size" "I" "SeaWatches", .methodLinkNest RX8 64 yX0_init RX8, .fieldLinkNest RX8 285 "SeaWatches$Dealing" "best" "[I" "SeaWatches", .fieldLinkNest RX8 275 "SeaWatches$Dealing" "listed" "I" "SeaWatches", .fieldLinkNest RX8 282 "SeaWatches$Dealing" "shared" "I" "SeaWatches", .methodLinkNest RX8 71 yX4_init RX8, .methodLinkNest RX8 83 yX5_init RX8, .fieldLinkNest RX8 220 "SeaWatches$Ship" "places" "[I" "SeaWatches", .fieldLinkNest RX8 223 "SeaWatches$Ship" "starts" "[I" "SeaWatches", .fieldLinkNest RX8 226 "SeaWatches$Ship" "goings" "[I" "SeaWatches", .fieldLinkNest RX8 229 "SeaWatches$Ship" "doubts" "[I" "SeaWatches", .fieldLinkNest RX8 368 "SeaWatches$Ship" "ends" "[I" "SeaWatches", .fieldLinkNest RX8 243 "SeaWatches$Ship" "sightDays" "[I" "SeaWatches", .fieldLinkNest RX8 236 "SeaWatches$Ship" "sights" "I" "SeaWatches", .fieldLinkNest RX8 208 "SeaWatches$Ship" "stage" "I" "SeaWatches", .fieldLinkNest RX8 262 "SeaWatches$Ship" "sailed" "I" "SeaWatches", .fieldLinkNest RX8 272 "SeaWatches$Ship" "voyage" "I" "SeaWatches", .methodLinkNest RX8 301 yX7_init RX8, .methodLinkNest RX7 24 yX8_isDay RX8, .methodLinkNest RX7 45 yX8_isWithin RX8]
def isNw : Cond → Bool
  | .fieldLinkNest .. => true
  | .methodLinkNest .. => true
  | _ => false
theorem nestW_is : ∀ w ∈ nestW, isNw w = true := by decide +kernel
theorem nestW_in : ∀ w ∈ nestW, w ∈ lw_tbl := by
  intro w hw
  have hp : nestW = ([30, 40, 57, 62, 64, 67, 79, 131, 137, 145, 146, 159, 186, 193, 197, 199, 222, 224, 229, 231, 233, 235, 237, 239, 242, 244, 246, 248, 344, 377, 438] : List Nat).filterMap (fun i => tables_1[i]?) := by decide +kernel
  rw [hp] at hw
  obtain ⟨i, -, hi⟩ := List.mem_filterMap.mp hw
  exact lw_t i hi
theorem nw_warm {w : Cond} {s U : State} (h : isNw w = true) (hW : s.WarmedH U.vm) (hZ : va_Nw w s) : va_Nw w U := by
  cases w <;> first | exact va_Nw.warmF hW hZ | exact va_Nw.warmM hW hZ | cases h
theorem nw_tab {w : Cond} (h : isNw w = true) : w.onTables = true := by
  cases w <;> first | rfl | cases h
def KX (D : va_G) (E : Nat → Nat) (U : State) : Prop := va_K D vwCl (TY E) U ∧ (∀ w ∈ nestW, va_Nw w U) ∧ (va_AO "SeaWatches$Watch" U ∧ va_AO "SeaWatches$Ship" U) ∧ vk_R RX6 26 "" (E 5) U ∧ vk_R RX8 182 "or and not abs days least most span gaps jump drift sum warm" (E 6) U ∧ vk_R RX8 184 "or and not abs off doubt days which" (E 7) U
theorem KX.warm {D : va_G} {E : Nat → Nat} {s U : State} (hW : s.WarmedH U.vm) (h : KX D E s) : KX D E U :=
  ⟨va_K.moved hW.alike h.1, fun w hw => nw_warm (nestW_is w hw) hW (h.2.1 w hw), ⟨va_AO.moved hW.alike h.2.2.1.1, va_AO.moved hW.alike h.2.2.1.2⟩, vk_R.warm hW h.2.2.2.1, vk_R.warm hW h.2.2.2.2.1, vk_R.warm hW h.2.2.2.2.2⟩
theorem KX.calling {D : va_G} {E : Nat → Nat} {U : State} (g : JFrame) (mk : MethodId) (a : Array Value) (h : KX D E U) : KX D E (U.calling g mk a) :=
  ⟨va_K.moved (u := U) (U := U.calling g mk a) (Vm.Alike.refl U.vm) h.1, fun w hw => va_Nw.same (nw_tab (nestW_is w hw)) (u := U) rfl (h.2.1 w hw), ⟨va_AO.moved (u := U) (U := U.calling g mk a) (Vm.Alike.refl U.vm) h.2.2.1.1, va_AO.moved (u := U) (U := U.calling g mk a) (Vm.Alike.refl U.vm) h.2.2.1.2⟩, vk_R.same (u := U) rfl h.2.2.2.1, vk_R.same (u := U) rfl h.2.2.2.2.1, vk_R.same (u := U) rfl h.2.2.2.2.2⟩
/-! ===== numbers ===== -/
theorem i_lt {a b : Int32} : a < b ↔ a.toInt < b.toInt := Int32.lt_iff_toInt_lt
theorem i_le {a b : Int32} : a ≤ b ↔ a.toInt ≤ b.toInt := Int32.le_iff_toInt_le
theorem i_eq {a b : Int32} : a = b ↔ a.toInt = b.toInt := Int32.toInt_inj.symm
theorem i_lo (a : Int32) : -2147483648 ≤ a.toInt := by have := Int32.le_toInt a; simpa using this
theorem i_hi (a : Int32) : a.toInt ≤ 2147483647 := by have := Int32.toInt_lt a; have : a.toInt < 2147483648 := by simpa using this
                                                      omega
theorem i_bmod {x : Int} (h1 : -2147483648 ≤ x) (h2 : x ≤ 2147483647) : x.bmod (2 ^ 32) = x := by
  rw [Int.bmod_def]
  have : ((2 ^ 32 : Nat) : Int) = 4294967296 := by decide
  rw [this]
  split <;> omega
theorem i_add {a b : Int32} (h1 : -2147483648 ≤ a.toInt + b.toInt) (h2 : a.toInt + b.toInt ≤ 2147483647) : (a + b).toInt = a.toInt + b.toInt := by
  rw [Int32.toInt_add]; exact i_bmod h1 h2
theorem i_sub {a b : Int32} (h1 : -2147483648 ≤ a.toInt - b.toInt) (h2 : a.toInt - b.toInt ≤ 2147483647) : (a - b).toInt = a.toInt - b.toInt := by
  rw [Int32.toInt_sub]; exact i_bmod h1 h2
theorem i_mul {a b : Int32} (h1 : -2147483648 ≤ a.toInt * b.toInt) (h2 : a.toInt * b.toInt ≤ 2147483647) : (a * b).toInt = a.toInt * b.toInt := by
  rw [Int32.toInt_mul]; exact i_bmod h1 h2
theorem i_clamp0 {x : Int32} (h : 0 ≤ x.toInt) : (x.toNatClampNeg : Int) = x.toInt := by
  have h2 : x.toNatClampNeg = x.toInt.toNat := rfl
  rw [h2]; exact Int.toNat_of_nonneg h
theorem i_neg {a : Int32} (h : -2147483647 ≤ a.toInt) : (-a).toInt = -a.toInt := by
  have h2 := i_hi a
  rw [Int32.toInt_neg]; exact i_bmod (by omega) (by omega)
theorem fill_step {f : Nat → Int32} {i j : Int32} {v : Int32} (h0 : 0 ≤ i.toInt) (hi : j.toInt = i.toInt + 1) (h : ∀ k : Nat, (k : Int) < i.toInt → f k = v) : ∀ k : Nat, (k : Int) < j.toInt → upd f i.toNatClampNeg v k = v := by
  intro k hk
  have hc := i_clamp0 h0
  unfold upd
  split
  · rfl
  · exact h k (by omega)
theorem g_add {a b : Int32} {x y : Int} (ha : a.toInt = x) (hb : b.toInt = y) (h1 : -2147483648 ≤ x + y) (h2 : x + y ≤ 2147483647) : (a + b).toInt = x + y := by subst ha; subst hb; exact i_add h1 h2
theorem g_sub {a b : Int32} {x y : Int} (ha : a.toInt = x) (hb : b.toInt = y) (h1 : -2147483648 ≤ x - y) (h2 : x - y ≤ 2147483647) : (a - b).toInt = x - y := by subst ha; subst hb; exact i_sub h1 h2
theorem g_mul {a b : Int32} {x y : Int} (ha : a.toInt = x) (hb : b.toInt = y) (h1 : -2147483648 ≤ x * y) (h2 : x * y ≤ 2147483647) : (a * b).toInt = x * y := by subst ha; subst hb; exact i_mul h1 h2
theorem g_lt {a b : Int32} {x y : Int} (ha : a.toInt = x) (hb : b.toInt = y) : a < b ↔ x < y := by subst ha; subst hb; exact i_lt
theorem g_le {a b : Int32} {x y : Int} (ha : a.toInt = x) (hb : b.toInt = y) : a ≤ b ↔ x ≤ y := by subst ha; subst hb; exact i_le
theorem g_eq {a b : Int32} {x y : Int} (ha : a.toInt = x) (hb : b.toInt = y) : a = b ↔ x = y := by subst ha; subst hb; exact i_eq
theorem g_in {a : Int32} {x : Int} {n : Nat} (ha : a.toInt = x) (h1 : 0 ≤ x) (h2 : x < n) : vp_in a n := by subst ha; exact vp_in_iff.mpr ⟨h1, h2⟩
theorem i_in {x : Int32} {n : Nat} (h1 : 0 ≤ x.toInt) (h2 : x.toInt < n) : vp_in x n := vp_in_iff.mpr ⟨h1, h2⟩
theorem i_clamp {x : Int32} (h : 0 ≤ x.toInt) : (x.toNatClampNeg : Int) = x.toInt := by
  have h2 : x.toNatClampNeg = x.toInt.toNat := rfl
  rw [h2]; exact Int.toNat_of_nonneg h
/-! ===== methods: their words, room, contracts ===== -/
abbrev wl (y : MethodName) (b : ByteArray) (n : Nat) (r : Option FieldType) : List Cond := Cond.code y b n r :: tb
def RM (d mc ms : Nat) : Room := { frames := d, cells := mc, slots := ms, locals := 40 * d }
theorem gC {y : MethodName} {b : ByteArray} {n : Nat} {r : Option FieldType} (h : Cond.code y b n r ∈ tb) : GoodIn tb (wl y b n r) := gW (fun w hw => (List.mem_cons.mp hw).elim (fun e => by rw [e]; exact h) id)
def yOk (y : MethodName) (n : Nat) : Prop := y.cls ≠ "java/lang/invoke/MethodHandle" ∧ y.cls ≠ "java/lang/invoke/VarHandle" ∧ (parseMethodDescriptor y.desc).map (fun d => d.parameters.length) = some n
/-- a method that only reads: its answer, the heap as it was -/
def rd_Q (post : Int32 → Prop) : Array Value → State → Outcome → State → Prop := fun _ st oc t => ∃ r : Int32, oc = .returned (some (.int r)) ∧ post r ∧ t.heap = st.heap
/-- .. and answers null -/
def rn_Q : Array Value → State → Outcome → State → Prop := fun _ st oc t => oc = .returned (some .null) ∧ t.heap = st.heap
abbrev rd_P (D : va_G) (E : Nat → Nat) (av : List Value) (wc : va_W) : Array Value → State → Prop := va_Pc av (fun U => va_P D vwCl wc U.heap ∧ KX D E U)
abbrev mu_P (D : va_G) (E : Nat → Nat) (av : List Value) (wc : va_W) (sz : Nat) : Array Value → State → Prop := va_Pc av (fun U => U.heap.size = sz ∧ va_P D vwCl wc U.heap ∧ KX D E U ∧ va_D (fun _ => True) wc)
/-- what stands behind a method that writes -/
abbrev mu_B {S : Type} (D : va_G) (A : Nat → Prop) (w1 : S → va_W) : S → State → Prop := fun u t => va_P D vwCl (w1 u) t.heap ∧ va_D A (w1 u)
section CALLS
variable {p : Program} {l : Launch} {e : Env} {R : Room} {s : State} {m : MethodId} {args : Array Value} {below : List Frame} {meth : Method} {c : Code} {H : Heap} {locs : List Loc} {cells slots : Nat} {Q : State → Prop}
variable {cc : ByteArray} {pc : Nat} {ls : Array Slot} {rest st : List Value} {D : va_G} {E : Nat → Nat}
theorem W_top {x y : Value} (h : x = y) (k : W p l e R s m args below meth c H locs cells slots Q (F0 m pc ls (y :: rest))) : W p l e R s m args below meth c H locs cells slots Q (F0 m pc ls (x :: rest)) := by rw [h]; exact k
theorem rd_call {post : Int32 → Prop} {a : Array Value} (hr : CallRun p l e R s m args below meth c H locs cells slots 0 0 (F0 m pc ls st) rest (rd_Q post a) (fun _ => False))
    (kk : ∀ r : Int32, post r → W p l e R s m args below meth c H locs cells slots Q (F0 m (pc + 3) ls (.int r :: rest))) : W p l e R s m args below meth c H locs cells slots Q (F0 m pc ls st) := by
  intro T hT X
  obtain ⟨v, st₀, t, T', L, h0, X', hL, e1, ⟨r, hv, hp, hh⟩, st⟩ := hr T hT X
  cases hv
  obtain ⟨t2, a1, b1⟩ := kk r hp T' (by rw [e1, hh, h0]) (Stand.forget X' (fun q h => (hL q h).elim))
  exact ⟨t2, st t2 a1, b1⟩
theorem rn_call {a : Array Value} (hr : CallRun p l e R s m args below meth c H locs cells slots 0 0 (F0 m pc ls st) rest (rn_Q a) (fun _ => False))
    (kk : W p l e R s m args below meth c H locs cells slots Q (F0 m (pc + 3) ls (.null :: rest))) : W p l e R s m args below meth c H locs cells slots Q (F0 m pc ls st) := by
  intro T hT X
  obtain ⟨v, st₀, t, T', L, h0, X', hL, e1, ⟨hv, hh⟩, st⟩ := hr T hT X
  cases hv
  obtain ⟨t2, a1, b1⟩ := kk T' (by rw [e1, hh, h0]) (Stand.forget X' (fun q h => (hL q h).elim))
  exact ⟨t2, st t2 a1, b1⟩
theorem l_room {st : List Value} (h : (st.map fun v => v.category).sum ≤ 8) : 2 * (F0 m pc ls rest).monitorRoom + (st.map fun v => v.category).sum ≤ 8 := lv_room h
theorem prV {y : MethodName} {b : Nat} {As : List Value} {wc : va_W} (hP : va_P D vwCl wc H) (hK : KX D E s) {ci : Nat} {q : vw_C} {fs : List Value} (hc : vwCl[ci]? = some q) (hq : q.1 = y.cls) (q0 : Nat) (he : wc[q0]? = some (b, .inr (ci, fs))) : PreV s H y.cls b (rd_P D E (.ref b :: As) wc) As :=
  ⟨fun a U g mk z => ⟨z.1, z.2.1, z.2.2.calling g mk a⟩, by rw [← hq]; exact va_recv hK.1 hP hc he, fun U hU hW => ⟨rfl, by rw [hU]; exact hP, hK.warm hW⟩⟩
theorem prS {As : List Value} {wc : va_W} (hP : va_P D vwCl wc H) (hK : KX D E s) : PreS s H (rd_P D E As wc) As :=
  ⟨fun a U g mk z => ⟨z.1, z.2.1, z.2.2.calling g mk a⟩, fun U hU hW => ⟨rfl, by rw [hU]; exact hP, hK.warm hW⟩⟩
theorem pmV {y : MethodName} {b : Nat} {As : List Value} {wc : va_W} {A0 : Nat → Prop} (hP : va_P D vwCl wc H) (hD : va_D A0 wc) (hK : KX D E s) {ci : Nat} {q : vw_C} {fs : List Value} (hc : vwCl[ci]? = some q) (hq : q.1 = y.cls) (q0 : Nat) (he : wc[q0]? = some (b, .inr (ci, fs))) : PreV s H y.cls b (mu_P D E (.ref b :: As) wc H.size) As :=
  ⟨fun a U g mk z => ⟨z.1, z.2.1, z.2.2.1, z.2.2.2.1.calling g mk a, z.2.2.2.2⟩, by rw [← hq]; exact va_recv hK.1 hP hc he, fun U hU hW => ⟨rfl, by rw [hU], by rw [hU]; exact hP, hK.warm hW, hD.weaken (fun _ _ _ _ => trivial)⟩⟩
theorem pmS {As : List Value} {wc : va_W} {A0 : Nat → Prop} (hP : va_P D vwCl wc H) (hD : va_D A0 wc) (hK : KX D E s) : PreS s H (mu_P D E As wc H.size) As :=
  ⟨fun a U g mk z => ⟨z.1, z.2.1, z.2.2.1, z.2.2.2.1.calling g mk a, z.2.2.2.2⟩, fun U hU hW => ⟨rfl, by rw [hU], by rw [hU]; exact hP, hK.warm hW, hD.weaken (fun _ _ _ _ => trivial)⟩⟩
variable {nL n idx d mc ms maxL : Nat} {own : String} {y : MethodName} {bytes : ByteArray} {ret : Option FieldType}
theorem cB (htb : ∀ w ∈ tb, w.before args s = true) (hy : yOk y n) (k1 : Cond.methodLink own idx y ∈ tb) (k4 : Cond.initialized y.cls ∈ tb) (k5 : Cond.code y bytes maxL ret ∈ tb) (hR : d + 1 ≤ R.frames ∧ 8 + (maxL + 11) + 40 * d ≤ R.locals) : CallB R s args own idx y bytes maxL ret (wl y bytes maxL ret) (RM d mc ms) mc ms n :=
  callB_of n htb (gC k5) rfl rfl rfl (htb _ k4) (htb _ k1) hy hR
theorem cN {host : String} (htb : ∀ w ∈ tb, w.before args s = true) (hy : yOk y n) (hK : KX D E s) (k1 : Cond.methodLinkNest own idx y host ∈ nestW) (k4 : Cond.initialized y.cls ∈ tb) (k5 : Cond.code y bytes maxL ret ∈ tb) (hR : d + 1 ≤ R.frames ∧ 8 + (maxL + 11) + 40 * d ≤ R.locals) : va_CN R s args own idx y host bytes maxL ret (wl y bytes maxL ret) (RM d mc ms) mc ms n :=
  va_cnB n htb (gC k5) rfl rfl rfl (hK.2.1 _ k1) (htb _ k4) hy hR
/-- a reading method of an object -/
theorem callRV (hx : p.tables.exec = Jvm.exec) (hb : c.code = cc) (hml : c.maxLocals = nL) (hown : s.vm.findClass own = some m.cls) (htb : ∀ w ∈ tb, w.before args s = true) (hK : KX D E s)
    {b : Nat} {As : List Value} {wc : va_W} {post : Int32 → Prop} (hM : Met l y (wl y bytes maxL ret) (RM d 0 0) (rd_P D E (.ref b :: As) wc) (rd_Q post) 0 0 (fun _ => False)) (hy : yOk y n)
    (k1 : Cond.methodLink own idx y ∈ tb) (k2 : Cond.instanceMethod y ∈ tb) (k3 : Cond.selects y.cls y y ∈ tb) (k4 : Cond.initialized y.cls ∈ tb) (k5 : Cond.code y bytes maxL ret ∈ tb)
    (hR : d + 1 ≤ R.frames ∧ 8 + (maxL + 11) + 40 * d ≤ R.locals) (hf : cells ≤ R.cells ∧ slots ≤ R.slots) (hls : ls.size = nL) (hroom : (rest.map fun v => v.category).sum ≤ 8) (hn : As.length = n) (hst : st = As.reverse ++ .ref b :: rest) (hdg : decode cc pc = .ok (.invokevirtual idx, 3))
    (hP : va_P D vwCl wc H) {ci : Nat} {q : vw_C} {fs : List Value} (hc : vwCl[ci]? = some q) (hq : q.1 = y.cls) (q0 : Nat) (he : wc[q0]? = some (b, .inr (ci, fs)))
    (kk : ∀ r : Int32, post r → W p l e R s m args below meth c H locs cells slots Q (F0 m (pc + 3) ls (.int r :: rest))) : W p l e R s m args below meth c H locs cells slots Q (F0 m pc ls st) :=
  rd_call (W.runV (As := As) (rest := rest) (b := b) (C := y.cls) ⟨hx, hb, hml, hown, htb⟩ hM ⟨cB htb hy k1 k4 k5 hR, htb _ k2, htb _ k3⟩ (prV hP hK hc hq q0 he) rfl hn hls hst (l_room hroom) hdg hf) kk
theorem callRS (hx : p.tables.exec = Jvm.exec) (hb : c.code = cc) (hml : c.maxLocals = nL) (hown : s.vm.findClass own = some m.cls) (htb : ∀ w ∈ tb, w.before args s = true) (hK : KX D E s)
    {As : List Value} {wc : va_W} {post : Int32 → Prop} (hM : Met l y (wl y bytes maxL ret) (RM d 0 0) (rd_P D E As wc) (rd_Q post) 0 0 (fun _ => False)) (hy : yOk y n)
    (k1 : Cond.methodLink own idx y ∈ tb) (k2 : Cond.static y ∈ tb) (k4 : Cond.initialized y.cls ∈ tb) (k5 : Cond.code y bytes maxL ret ∈ tb)
    (hR : d + 1 ≤ R.frames ∧ 8 + (maxL + 11) + 40 * d ≤ R.locals) (hf : cells ≤ R.cells ∧ slots ≤ R.slots) (hls : ls.size = nL) (hroom : (rest.map fun v => v.category).sum ≤ 8) (hn : As.length = n) (hst : st = As.reverse ++ rest) (hdg : decode cc pc = .ok (.invokestatic idx, 3))
    (hP : va_P D vwCl wc H)
    (kk : ∀ r : Int32, post r → W p l e R s m args below meth c H locs cells slots Q (F0 m (pc + 3) ls (.int r :: rest))) : W p l e R s m args below meth c H locs cells slots Q (F0 m pc ls st) :=
  rd_call (W.runS (As := As) (rest := rest) ⟨hx, hb, hml, hown, htb⟩ hM ⟨cB htb hy k1 k4 k5 hR, htb _ k2⟩ (prS hP hK) rfl hn hls hst (l_room hroom) hdg hf) kk
theorem callNV (hx : p.tables.exec = Jvm.exec) (hb : c.code = cc) (hml : c.maxLocals = nL) (hown : s.vm.findClass own = some m.cls) (htb : ∀ w ∈ tb, w.before args s = true) (hK : KX D E s)
    {b : Nat} {As : List Value} {wc : va_W} (hM : Met l y (wl y bytes maxL ret) (RM d 0 0) (rd_P D E (.ref b :: As) wc) rn_Q 0 0 (fun _ => False)) (hy : yOk y n)
    (k1 : Cond.methodLink own idx y ∈ tb) (k2 : Cond.instanceMethod y ∈ tb) (k3 : Cond.selects y.cls y y ∈ tb) (k4 : Cond.initialized y.cls ∈ tb) (k5 : Cond.code y bytes maxL ret ∈ tb)
    (hR : d + 1 ≤ R.frames ∧ 8 + (maxL + 11) + 40 * d ≤ R.locals) (hf : cells ≤ R.cells ∧ slots ≤ R.slots) (hls : ls.size = nL) (hroom : (rest.map fun v => v.category).sum ≤ 8) (hn : As.length = n) (hst : st = As.reverse ++ .ref b :: rest) (hdg : decode cc pc = .ok (.invokevirtual idx, 3))
    (hP : va_P D vwCl wc H) {ci : Nat} {q : vw_C} {fs : List Value} (hc : vwCl[ci]? = some q) (hq : q.1 = y.cls) (q0 : Nat) (he : wc[q0]? = some (b, .inr (ci, fs)))
    (kk : W p l e R s m args below meth c H locs cells slots Q (F0 m (pc + 3) ls (.null :: rest))) : W p l e R s m args below meth c H locs cells slots Q (F0 m pc ls st) :=
  rn_call (W.runV (As := As) (rest := rest) (b := b) (C := y.cls) ⟨hx, hb, hml, hown, htb⟩ hM ⟨cB htb hy k1 k4 k5 hR, htb _ k2, htb _ k3⟩ (prV hP hK hc hq q0 he) rfl hn hls hst (l_room hroom) hdg hf) kk
/-- behind a method that writes: what it left, beside the rest -/
theorem aft_i {S : Type} {A0 : Nat → Prop} {H0 : Heap} {ws wc : va_W} {post : Int32 → S → Prop} {w1 : S → va_W} {a : Array Value}
    (hr : va_Run p l e R s m args below meth c H locs cells slots mc ms (F0 m pc ls st) rest (va_Qi post (mu_B D (va_A wc H.size) w1) (va_A wc H.size) a) (va_A wc H.size))
    (hP : va_P D vwCl ws H) (hD : va_D A0 ws) (hS : va_S A0 H0 H locs) (hA : ∀ q, H0.size ≤ q → A0 q) (isC isR : List Nat) {wr : va_W} (hC : isC.map (fun i => ws[i]?) = wc.map some) (hR : isR.map (fun i => ws[i]?) = wr.map some) (hn : va_nd isR = true) (hdis : ∀ i ∈ isR, i ∉ isC)
    (kk : ∀ (r : Int32) (u : S) (H1 : Heap) (locs1 : List Loc), post r u → va_P D vwCl (wr ++ w1 u) H1 → va_D A0 (wr ++ w1 u) → va_S A0 H0 H1 locs1 → W p l e R s m args below meth c H1 locs1 (cells + mc) (slots + ms) Q (F0 m (pc + 3) ls (.int r :: rest))) : W p l e R s m args below meth c H locs cells slots Q (F0 m pc ls st) := by
  have hFc := va_free (wc := wc) hD hS hA isC hC
  refine va_calli hr hS (fun q _ h => hFc q h) hFc (fun r u t H1 locs1 ht hvm hw hB hz1 hk1 hS => ?_)
  obtain ⟨hP1, hD1⟩ := hB
  rw [ht] at hP1
  obtain ⟨hP, hD⟩ := va_join hP hD isC isR hC hR hn hdis hk1 hFc hP1 hD1
  exact kk r u H1 locs1 hw hP hD hS
theorem aft_v {S : Type} {A0 : Nat → Prop} {H0 : Heap} {ws wc : va_W} {post : S → Prop} {w1 : S → va_W} {a : Array Value}
    (hr : va_Run p l e R s m args below meth c H locs cells slots mc ms (F0 m pc ls st) rest (va_Qv post (mu_B D (va_A wc H.size) w1) (va_A wc H.size) a) (va_A wc H.size))
    (hP : va_P D vwCl ws H) (hD : va_D A0 ws) (hS : va_S A0 H0 H locs) (hA : ∀ q, H0.size ≤ q → A0 q) (isC isR : List Nat) {wr : va_W} (hC : isC.map (fun i => ws[i]?) = wc.map some) (hR : isR.map (fun i => ws[i]?) = wr.map some) (hn : va_nd isR = true) (hdis : ∀ i ∈ isR, i ∉ isC)
    (kk : ∀ (u : S) (H1 : Heap) (locs1 : List Loc), post u → va_P D vwCl (wr ++ w1 u) H1 → va_D A0 (wr ++ w1 u) → va_S A0 H0 H1 locs1 → W p l e R s m args below meth c H1 locs1 (cells + mc) (slots + ms) Q (F0 m (pc + 3) ls rest)) : W p l e R s m args below meth c H locs cells slots Q (F0 m pc ls st) := by
  have hFc := va_free (wc := wc) hD hS hA isC hC
  refine va_callv hr hS (fun q _ h => hFc q h) hFc (fun u t H1 locs1 ht hvm hw hB hz1 hk1 hS => ?_)
  obtain ⟨hP1, hD1⟩ := hB
  rw [ht] at hP1
  obtain ⟨hP, hD⟩ := va_join hP hD isC isR hC hR hn hdis hk1 hFc hP1 hD1
  exact kk u H1 locs1 hw hP hD hS
/-- the runs of methods that write: of an object; a constructor (plain, of a nest mate) -/
theorem runMV {b : Nat} {As : List Value} {wc : va_W} {A0 : Nat → Prop} {Qc : Array Value → State → Outcome → State → Prop} (hx : p.tables.exec = Jvm.exec) (hb : c.code = cc) (hml : c.maxLocals = nL) (hown : s.vm.findClass own = some m.cls) (htb : ∀ w ∈ tb, w.before args s = true) (hK : KX D E s)
    (hM : Met l y (wl y bytes maxL ret) (RM d mc ms) (mu_P D E (.ref b :: As) wc H.size) Qc mc ms (va_A wc H.size)) (hy : yOk y n)
    (k1 : Cond.methodLink own idx y ∈ tb) (k2 : Cond.instanceMethod y ∈ tb) (k3 : Cond.selects y.cls y y ∈ tb) (k4 : Cond.initialized y.cls ∈ tb) (k5 : Cond.code y bytes maxL ret ∈ tb)
    (hR : d + 1 ≤ R.frames ∧ 8 + (maxL + 11) + 40 * d ≤ R.locals) (hf : cells + mc ≤ R.cells ∧ slots + ms ≤ R.slots) (hls : ls.size = nL) (hroom : (rest.map fun v => v.category).sum ≤ 8) (hn : As.length = n) (hst : st = As.reverse ++ .ref b :: rest) (hdg : decode cc pc = .ok (.invokevirtual idx, 3))
    (hP : va_P D vwCl wc H) (hD : va_D A0 wc) {ci : Nat} {q : vw_C} {fs : List Value} (hc : vwCl[ci]? = some q) (hq : q.1 = y.cls) (q0 : Nat) (he : wc[q0]? = some (b, .inr (ci, fs))) :
    va_Run p l e R s m args below meth c H locs cells slots mc ms (F0 m pc ls st) rest (Qc (Value.ref b :: As).toArray) (va_A wc H.size) :=
  va_runV (As := As) (rest := rest) (b := b) (C := y.cls) ⟨hx, hb, hml, hown, htb⟩ hM ⟨cB htb hy k1 k4 k5 hR, htb _ k2, htb _ k3⟩ (pmV hP hD hK hc hq q0 he) rfl hn hls hst (l_room hroom) hdg hf
theorem runMI {b : Nat} {As : List Value} {wc : va_W} {A0 : Nat → Prop} {Qc : Array Value → State → Outcome → State → Prop} (hx : p.tables.exec = Jvm.exec) (hb : c.code = cc) (hml : c.maxLocals = nL) (hown : s.vm.findClass own = some m.cls) (htb : ∀ w ∈ tb, w.before args s = true) (hK : KX D E s)
    (hM : Met l y (wl y bytes maxL none) (RM d mc ms) (mu_P D E (.ref b :: As) wc H.size) Qc mc ms (va_A wc H.size)) (hy : yOk y n) (hi : y.name = "<init>")
    (k1 : Cond.methodLink own idx y ∈ tb) (k2 : Cond.instanceMethod y ∈ tb) (k4 : Cond.initialized y.cls ∈ tb) (k5 : Cond.code y bytes maxL none ∈ tb)
    (hR : d + 1 ≤ R.frames ∧ 8 + (maxL + 11) + 40 * d ≤ R.locals) (hf : cells + mc ≤ R.cells ∧ slots + ms ≤ R.slots) (hls : ls.size = nL) (hroom : (rest.map fun v => v.category).sum ≤ 8) (hn : As.length = n) (hst : st = As.reverse ++ .ref b :: rest) (hdg : decode cc pc = .ok (.invokespecial idx, 3))
    (hP : va_P D vwCl wc H) (hD : va_D A0 wc) :
    va_Run p l e R s m args below meth c H locs cells slots mc ms (F0 m pc ls st) rest (Qc (Value.ref b :: As).toArray) (va_A wc H.size) :=
  va_runI (As := As) (rest := rest) (b := b) ⟨hx, hb, hml, hown, htb⟩ hM ⟨cB htb hy k1 k4 k5 hR, hi, htb _ k2⟩ (pmS hP hD hK) rfl hn hls hst (l_room hroom) hdg hf
theorem runMN {host : String} {b : Nat} {As : List Value} {wc : va_W} {A0 : Nat → Prop} {Qc : Array Value → State → Outcome → State → Prop} (hx : p.tables.exec = Jvm.exec) (hb : c.code = cc) (hml : c.maxLocals = nL) (hown : s.vm.findClass own = some m.cls) (htb : ∀ w ∈ tb, w.before args s = true) (hK : KX D E s)
    (hM : Met l y (wl y bytes maxL none) (RM d mc ms) (mu_P D E (.ref b :: As) wc H.size) Qc mc ms (va_A wc H.size)) (hy : yOk y n) (hi : y.name = "<init>")
    (k1 : Cond.methodLinkNest own idx y host ∈ nestW) (k2 : Cond.instanceMethod y ∈ tb) (k4 : Cond.initialized y.cls ∈ tb) (k5 : Cond.code y bytes maxL none ∈ tb)
    (hR : d + 1 ≤ R.frames ∧ 8 + (maxL + 11) + 40 * d ≤ R.locals) (hf : cells + mc ≤ R.cells ∧ slots + ms ≤ R.slots) (hls : ls.size = nL) (hroom : (rest.map fun v => v.category).sum ≤ 8) (hn : As.length = n) (hst : st = As.reverse ++ .ref b :: rest) (hdg : decode cc pc = .ok (.invokespecial idx, 3))
    (hP : va_P D vwCl wc H) (hD : va_D A0 wc) :
    va_Run p l e R s m args below meth c H locs cells slots mc ms (F0 m pc ls st) rest (Qc (Value.ref b :: As).toArray) (va_A wc H.size) :=
  va_runIN (As := As) (rest := rest) (b := b) ⟨hx, hb, hml, hown, htb⟩ hM ⟨cN htb hy hK k1 k4 k5 hR, hi, htb _ k2⟩ (pmS hP hD hK) rfl hn hls hst (l_room hroom) hdg hf
end CALLS
/-! ===== array classes are one for each kind; contents that agree; ===== -/
theorem ka_i {D : va_G} {cl : List vw_C} {tys : List (ClassId × FieldType)} {s : State} {cA cB : ClassId} {ty : FieldType} (hty : ∀ C, ty ≠ .object C) (h : va_K D cl (tys ++ [(cA, ty)]) s) (k : Nat) (hk : tys[k]? = some (cB, ty)) : cA = cB := by
  have h1 := (h.2 tys.length (cA, ty) (by simp)).2
  have h2 := (h.2 k (cB, ty) (by rw [List.getElem?_append_left (List.getElem?_eq_some_iff.mp hk).1]; exact hk)).2
  cases ty <;> first | exact Option.some.inj (h1.symm.trans h2) | exact absurd rfl (hty _)
theorem ka_o {D : va_G} {cl : List vw_C} {tys : List (ClassId × FieldType)} {s : State} {cA cB : ClassId} {C : String} (h : va_K D cl (tys ++ [(cA, .object C)]) s) (k : Nat) (hk : tys[k]? = some (cB, .object C)) : cA = cB := by
  obtain ⟨_, _, _, _, _, h1⟩ := (h.2 tys.length (cA, .object C) (by simp)).2
  obtain ⟨_, _, _, _, _, h2⟩ := (h.2 k (cB, .object C) (by rw [List.getElem?_append_left (List.getElem?_eq_some_iff.mp hk).1]; exact hk)).2
  exact Option.some.inj (h1.symm.trans h2)
theorem arrV_ext {cA : ClassId} {n : Nat} {f g : Nat → Value} (h : ∀ j, j < n → f j = g j) : arrV cA n f = arrV cA n g := by
  unfold arrV
  have : (fun j : Fin n => f j.val) = (fun j : Fin n => g j.val) := funext fun j => h j.val j.isLt
  rw [this]
theorem re_i {cA : ClassId} {n : Nat} {f g : Nat → Int32} (h : ∀ j, j < n → f j = g j) : vp_cell cA (n, .inl f) = vp_cell cA (n, .inl g) := by
  rw [vp_cell_i, vp_cell_i]; exact arrV_ext (fun j hj => by rw [h j hj])
theorem re_q {cA : ClassId} {n : Nat} {f g : Nat → Option Nat} (h : ∀ j, j < n → f j = g j) : vp_cell cA (n, .inr (.inr (.inr (.inr f)))) = vp_cell cA (n, .inr (.inr (.inr (.inr g)))) := by
  rw [vp_cell_q, vp_cell_q]; exact arrV_ext (fun j hj => by rw [h j hj])
theorem re_P {D : va_G} {cl : List vw_C} {ws : va_W} {H : Heap} {a : Nat} {cA : ClassId} {x y : vp_A} (h : va_P D cl ws H) (k : Nat) (hk : ws[k]? = some (a, .inl (cA, x))) (he : vp_cell cA x = vp_cell cA y) : va_P D cl (ws.set k (a, .inl (cA, y))) H := by
  have hl := (List.getElem?_eq_some_iff.mp hk).1
  intro i q hi
  by_cases hik : i = k
  · subst hik
    rw [List.getElem?_set_self hl] at hi
    cases hi
    have h1 := h i _ hk
    show H[a]? = some (vp_cell cA y)
    rw [← he]; exact h1
  · rw [List.getElem?_set_ne (Ne.symm hik)] at hi
    exact h i q hi
/-- new arrays of ints, booleans, bytes -/
theorem nw_i {N : Nat} (cA : ClassId) : vp_cell cA (N, .inl (fun _ => 0)) = arrV cA N (fun _ => defaultValue .int) := rfl
theorem nw_z {N : Nat} (cA : ClassId) : vp_cell cA (N, .inl (fun _ => 0)) = arrV cA N (fun _ => defaultValue .boolean) := rfl
theorem nw_b {N : Nat} (cA : ClassId) : vp_cell cA (N, .inl (fun _ => 0)) = arrV cA N (fun _ => defaultValue .byte) := rfl
/-! ===== the context holds at the law's start ===== -/
theorem sr_0 : Cond.stringRef RX6 26 "" ∈ lw_tbl := lw_t 156 (by decide +kernel)
theorem sr_1 : Cond.stringRef RX8 182 "or and not abs days least most span gaps jump drift sum warm" ∈ lw_tbl := lw_t 585 (by decide +kernel)
theorem sr_2 : Cond.stringRef RX8 184 "or and not abs off doubt days which" ∈ lw_tbl := lw_t 586 (by decide +kernel)
theorem ao_0 : Cond.arrayOver (.object "SeaWatches$Watch") ∈ lw_tbl := lw_t 25 (by decide +kernel)
theorem ao_1 : Cond.arrayOver (.object "SeaWatches$Ship") ∈ lw_tbl := lw_t 27 (by decide +kernel)
/-! ===== for methods in any state ===== -/
theorem g_div {a b : Int32} {x y : Int} (ha : a.toInt = x) (hb : b.toInt = y) (h1 : 0 ≤ x) (h2 : 0 < y) : (a / b).toInt = x / y := by
  subst ha; subst hb
  have hi := i_hi a
  rw [Int32.toInt_div]
  have e : a.toInt.tdiv b.toInt = a.toInt / b.toInt := Int.tdiv_eq_ediv_of_nonneg h1
  rw [e]
  have h3 : 0 ≤ a.toInt / b.toInt := Int.ediv_nonneg h1 (Int.le_of_lt h2)
  have h4 : a.toInt / b.toInt ≤ a.toInt := Int.ediv_le_self _ h1
  exact i_bmod (by omega) (by omega)
theorem g_rem {a b : Int32} {x y : Int} (ha : a.toInt = x) (hb : b.toInt = y) (h1 : 0 ≤ x) (h2 : 0 < y) : (a - a / b * b).toInt = x % y := by
  have hd := g_div ha hb h1 h2
  subst ha; subst hb
  have hi := i_hi a
  have h3 : 0 ≤ a.toInt / b.toInt := Int.ediv_nonneg h1 (Int.le_of_lt h2)
  have h5 := Int.emod_add_mul_ediv a.toInt b.toInt
  have h6 := Int.emod_nonneg a.toInt (Int.ne_of_gt h2)
  have h7 : 0 ≤ b.toInt * (a.toInt / b.toInt) := Int.mul_nonneg (Int.le_of_lt h2) h3
  have hm : (a / b * b).toInt = a.toInt / b.toInt * b.toInt := by
    refine g_mul hd rfl ?_ ?_
    · rw [Int.mul_comm]; omega
    · rw [Int.mul_comm]; omega
  have e2 : a.toInt / b.toInt * b.toInt = b.toInt * (a.toInt / b.toInt) := Int.mul_comm _ _
  rw [g_sub rfl hm (by rw [e2]; omega) (by rw [e2]; omega), e2]
  omega
theorem g_ix {a : Int32} {x : Int} {n : Nat} (ha : a.toInt = x) (h1 : 0 ≤ x) (h2 : x < n) : a.toNatClampNeg < n := by
  subst ha
  have := i_clamp0 h1
  omega
theorem upd_r {f : Nat → Int32} {n i : Nat} {v : Int32} {lo hi : Int} (h : ∀ k : Nat, k < n → lo ≤ (f k).toInt ∧ (f k).toInt ≤ hi) (hv : lo ≤ v.toInt ∧ v.toInt ≤ hi) : ∀ k : Nat, k < n → lo ≤ (upd f i v k).toInt ∧ (upd f i v k).toInt ≤ hi := by
  intro k hk
  unfold upd
  split
  · exact hv
  · exact h k hk
theorem lc_eq {x y : Int64} (h : lg_cmp x y = 0) : x = y := by
  unfold lg_cmp at h
  split at h
  · exact absurd h (by decide)
  · split at h
    · assumption
    · exact absurd h (by decide)
theorem lc_ne {x y : Int64} (h : ¬ lg_cmp x y = 0) : ¬ x = y := by
  intro e
  subst e
  apply h
  unfold lg_cmp
  simp
def rl_Q (post : Int64 → Prop) : Array Value → State → Outcome → State → Prop := fun _ st oc t => ∃ r : Int64, oc = .returned (some (.long r)) ∧ post r ∧ t.heap = st.heap
def rv_Q : Array Value → State → Outcome → State → Prop := fun _ st oc t => oc = .returned none ∧ t.heap = st.heap
section CALLS2
variable {p : Program} {l : Launch} {e : Env} {R : Room} {s : State} {m : MethodId} {args : Array Value} {below : List Frame} {meth : Method} {c : Code} {H : Heap} {locs : List Loc} {cells slots : Nat} {Q : State → Prop}
variable {cc : ByteArray} {pc : Nat} {ls : Array Slot} {rest st : List Value} {D : va_G} {E : Nat → Nat}
variable {nL n idx d mc ms maxL : Nat} {own : String} {y : MethodName} {bytes : ByteArray} {ret : Option FieldType}
theorem rl_call {post : Int64 → Prop} {a : Array Value} (hr : CallRun p l e R s m args below meth c H locs cells slots 0 0 (F0 m pc ls st) rest (rl_Q post a) (fun _ => False))
    (kk : ∀ r : Int64, post r → W p l e R s m args below meth c H locs cells slots Q (F0 m (pc + 3) ls (.long r :: rest))) : W p l e R s m args below meth c H locs cells slots Q (F0 m pc ls st) := by
  intro T hT X
  obtain ⟨v, st₀, t, T', L, h0, X', hL, e1, ⟨r, hv, hp, hh⟩, st⟩ := hr T hT X
  cases hv
  obtain ⟨t2, a1, b1⟩ := kk r hp T' (by rw [e1, hh, h0]) (Stand.forget X' (fun q h => (hL q h).elim))
  exact ⟨t2, st t2 a1, b1⟩
theorem callLV (hx : p.tables.exec = Jvm.exec) (hb : c.code = cc) (hml : c.maxLocals = nL) (hown : s.vm.findClass own = some m.cls) (htb : ∀ w ∈ tb, w.before args s = true) (hK : KX D E s)
    {b : Nat} {As : List Value} {wc : va_W} {post : Int64 → Prop} (hM : Met l y (wl y bytes maxL ret) (RM d 0 0) (rd_P D E (.ref b :: As) wc) (rl_Q post) 0 0 (fun _ => False)) (hy : yOk y n)
    (k1 : Cond.methodLink own idx y ∈ tb) (k2 : Cond.instanceMethod y ∈ tb) (k3 : Cond.selects y.cls y y ∈ tb) (k4 : Cond.initialized y.cls ∈ tb) (k5 : Cond.code y bytes maxL ret ∈ tb)
    (hR : d + 1 ≤ R.frames ∧ 8 + (maxL + 11) + 40 * d ≤ R.locals) (hf : cells ≤ R.cells ∧ slots ≤ R.slots) (hls : ls.size = nL) (hroom : (rest.map fun v => v.category).sum ≤ 8) (hn : As.length = n) (hst : st = As.reverse ++ .ref b :: rest) (hdg : decode cc pc = .ok (.invokevirtual idx, 3))
    (hP : va_P D vwCl wc H) {ci : Nat} {q : vw_C} {fs : List Value} (hc : vwCl[ci]? = some q) (hq : q.1 = y.cls) (q0 : Nat) (he : wc[q0]? = some (b, .inr (ci, fs)))
    (kk : ∀ r : Int64, post r → W p l e R s m args below meth c H locs cells slots Q (F0 m (pc + 3) ls (.long r :: rest))) : W p l e R s m args below meth c H locs cells slots Q (F0 m pc ls st) :=
  rl_call (W.runV (As := As) (rest := rest) (b := b) (C := y.cls) ⟨hx, hb, hml, hown, htb⟩ hM ⟨cB htb hy k1 k4 k5 hR, htb _ k2, htb _ k3⟩ (prV hP hK hc hq q0 he) rfl hn hls hst (l_room hroom) hdg hf) kk
theorem callLS (hx : p.tables.exec = Jvm.exec) (hb : c.code = cc) (hml : c.maxLocals = nL) (hown : s.vm.findClass own = some m.cls) (htb : ∀ w ∈ tb, w.before args s = true) (hK : KX D E s)
    {As : List Value} {wc : va_W} {post : Int64 → Prop} (hM : Met l y (wl y bytes maxL ret) (RM d 0 0) (rd_P D E As wc) (rl_Q post) 0 0 (fun _ => False)) (hy : yOk y n)
    (k1 : Cond.methodLink own idx y ∈ tb) (k2 : Cond.static y ∈ tb) (k4 : Cond.initialized y.cls ∈ tb) (k5 : Cond.code y bytes maxL ret ∈ tb)
    (hR : d + 1 ≤ R.frames ∧ 8 + (maxL + 11) + 40 * d ≤ R.locals) (hf : cells ≤ R.cells ∧ slots ≤ R.slots) (hls : ls.size = nL) (hroom : (rest.map fun v => v.category).sum ≤ 8) (hn : As.length = n) (hst : st = As.reverse ++ rest) (hdg : decode cc pc = .ok (.invokestatic idx, 3))
    (hP : va_P D vwCl wc H)
    (kk : ∀ r : Int64, post r → W p l e R s m args below meth c H locs cells slots Q (F0 m (pc + 3) ls (.long r :: rest))) : W p l e R s m args below meth c H locs cells slots Q (F0 m pc ls st) :=
  rl_call (W.runS (As := As) (rest := rest) ⟨hx, hb, hml, hown, htb⟩ hM ⟨cB htb hy k1 k4 k5 hR, htb _ k2⟩ (prS hP hK) rfl hn hls hst (l_room hroom) hdg hf) kk
theorem aft_l {S : Type} {A0 : Nat → Prop} {H0 : Heap} {ws wc : va_W} {post : Int64 → S → Prop} {w1 : S → va_W} {a : Array Value}
    (hr : va_Run p l e R s m args below meth c H locs cells slots mc ms (F0 m pc ls st) rest (va_Ql post (mu_B D (va_A wc H.size) w1) (va_A wc H.size) a) (va_A wc H.size))
    (hP : va_P D vwCl ws H) (hD : va_D A0 ws) (hS : va_S A0 H0 H locs) (hA : ∀ q, H0.size ≤ q → A0 q) (isC isR : List Nat) {wr : va_W} (hC : isC.map (fun i => ws[i]?) = wc.map some) (hR : isR.map (fun i => ws[i]?) = wr.map some) (hn : va_nd isR = true) (hdis : ∀ i ∈ isR, i ∉ isC)
    (kk : ∀ (r : Int64) (u : S) (H1 : Heap) (locs1 : List Loc), post r u → va_P D vwCl (wr ++ w1 u) H1 → va_D A0 (wr ++ w1 u) → va_S A0 H0 H1 locs1 → W p l e R s m args below meth c H1 locs1 (cells + mc) (slots + ms) Q (F0 m (pc + 3) ls (.long r :: rest))) : W p l e R s m args below meth c H locs cells slots Q (F0 m pc ls st) := by
  have hFc := va_free (wc := wc) hD hS hA isC hC
  refine va_calll hr hS (fun q _ h => hFc q h) hFc (fun r u t H1 locs1 ht hvm hw hB hz1 hk1 hS => ?_)
  obtain ⟨hP1, hD1⟩ := hB
  rw [ht] at hP1
  obtain ⟨hP, hD⟩ := va_join hP hD isC isR hC hR hn hdis hk1 hFc hP1 hD1
  exact kk r u H1 locs1 hw hP hD hS
end CALLS2
end
section
/-! the seven tables one by one -/
theorem tb_1 {w : Cond} (i : Nat) (h : tables_1_1[i]? = some w) (hg : goodWord w = true) : w ∈ tb := List.mem_filter.mpr ⟨List.mem_append_right _ (show w ∈ tables_1 from List.mem_append_left _ (List.mem_of_getElem? h)), hg⟩
theorem tb_2 {w : Cond} (i : Nat) (h : tables_1_2[i]? = some w) (hg : goodWord w = true) : w ∈ tb := List.mem_filter.mpr ⟨List.mem_append_right _ (show w ∈ tables_1 from List.mem_append_right _ (List.mem_append_left _ (List.mem_of_getElem? h))), hg⟩
theorem tb_3 {w : Cond} (i : Nat) (h : tables_1_3[i]? = some w) (hg : goodWord w = true) : w ∈ tb := List.mem_filter.mpr ⟨List.mem_append_right _ (show w ∈ tables_1 from List.mem_append_right _ (List.mem_append_right _ (List.mem_append_left _ (List.mem_of_getElem? h)))), hg⟩
theorem tb_4 {w : Cond} (i : Nat) (h : tables_1_4[i]? = some w) (hg : goodWord w = true) : w ∈ tb := List.mem_filter.mpr ⟨List.mem_append_right _ (show w ∈ tables_1 from List.mem_append_right _ (List.mem_append_right _ (List.mem_append_right _ (List.mem_append_left _ (List.mem_of_getElem? h))))), hg⟩
theorem tb_5 {w : Cond} (i : Nat) (h : tables_1_5[i]? = some w) (hg : goodWord w = true) : w ∈ tb := List.mem_filter.mpr ⟨List.mem_append_right _ (show w ∈ tables_1 from List.mem_append_right _ (List.mem_append_right _ (List.mem_append_right _ (List.mem_append_right _ (List.mem_append_left _ (List.mem_of_getElem? h)))))), hg⟩
theorem tb_6 {w : Cond} (i : Nat) (h : tables_1_6[i]? = some w) (hg : goodWord w = true) : w ∈ tb := List.mem_filter.mpr ⟨List.mem_append_right _ (show w ∈ tables_1 from List.mem_append_right _ (List.mem_append_right _ (List.mem_append_right _ (List.mem_append_right _ (List.mem_append_right _ (List.mem_append_left _ (List.mem_of_getElem? h))))))), hg⟩
theorem tb_7 {w : Cond} (i : Nat) (h : tables_1_7[i]? = some w) (hg : goodWord w = true) : w ∈ tb := List.mem_filter.mpr ⟨List.mem_append_right _ (show w ∈ tables_1 from List.mem_append_right _ (List.mem_append_right _ (List.mem_append_right _ (List.mem_append_right _ (List.mem_append_right _ (List.mem_append_right _ (List.mem_of_getElem? h))))))), hg⟩
end
section
/-! decode rows: a byte list walked by recursors, and a lemma for each opcode -/
theorem toW {D : va_G} {cl : List vw_C} {ws ws' : va_W} {H : Heap} {A : Nat → Prop} (_ : va_P D cl ws H) (hD : va_D A ws') (e : ws' = ws) : va_D A ws := by rw [← e]; exact hD
noncomputable def drp (l : List UInt8) : Nat → List UInt8 := @List.rec UInt8 (fun _ => Nat → List UInt8) (fun _ => []) (fun x t ih n => @Nat.rec (fun _ => List UInt8) (x :: t) (fun m _ => ih m) n) l
theorem drp_eq (l : List UInt8) : ∀ n, drp l n = l.drop n := by
  induction l with
  | nil => intro n; cases n <;> rfl
  | cons x t ih =>
    intro n
    cases n with
    | zero => rfl
    | succ m => exact ih m
theorem dr_get {l : List UInt8} {pc : Nat} {x : UInt8} {t : List UInt8} (h : drp l pc = x :: t) : ∃ hp : pc < l.length, l[pc] = x ∧ drp l (pc + 1) = t := by
  rw [drp_eq] at h
  have hp : pc < l.length := by
    rcases Nat.lt_or_ge pc l.length with g | g
    · exact g
    · rw [List.drop_eq_nil_of_le g] at h; cases h
  rw [List.drop_eq_getElem_cons hp] at h
  injection h with h1 h2
  exact ⟨hp, h1, by rw [drp_eq]; exact h2⟩
theorem q_u1 {l : List UInt8} {p : Nat} {x : UInt8} {t : List UInt8} (h : drp l p = x :: t) : (Jvm.ClassFile.Reader.u1 : Jvm.ClassFile.Decoder Nat) ⟨⟨l⟩⟩ p = .ok (x.toNat, p + 1) := by
  obtain ⟨hp, e, -⟩ := dr_get h
  have hq : p < (ByteArray.mk ⟨l⟩).size := hp
  show (dite (p < (ByteArray.mk ⟨l⟩).size) (fun h => (do set (p + 1); pure ((ByteArray.mk ⟨l⟩)[p]'h).toNat : Jvm.ClassFile.Decoder Nat)) (fun _ => throw (Jvm.ClassFile.HasTruncated.truncated p))) ⟨⟨l⟩⟩ p = _
  rw [dif_pos hq]
  show Except.ok (((ByteArray.mk ⟨l⟩)[p]'hq).toNat, p + 1) = _
  rw [show (ByteArray.mk ⟨l⟩)[p]'hq = x from e]
theorem q_bind {α β : Type} {x : Jvm.ClassFile.Decoder α} {f : α → Jvm.ClassFile.Decoder β} {c : ByteArray} {p p' : Nat} {a : α} (h : x c p = .ok (a, p')) : (x >>= f) c p = f a c p' := by
  have e : (x >>= f) c p = Except.bind (x c p) (fun v => f v.1 c v.2) := rfl
  rw [e, h]; rfl
theorem q_map {α β : Type} {g : α → β} {x : Jvm.ClassFile.Decoder α} {c : ByteArray} {p p' : Nat} {a : α} (h : x c p = .ok (a, p')) : (g <$> x) c p = .ok (g a, p') := by
  have e : (g <$> x) c p = Except.bind (x c p) (fun v => .ok (g v.1, v.2)) := rfl
  rw [e, h]; rfl
theorem q_u2 {l : List UInt8} {p : Nat} {y z : UInt8} {t : List UInt8} (h : drp l p = y :: z :: t) : (Jvm.ClassFile.Reader.u2 : Jvm.ClassFile.Decoder Nat) ⟨⟨l⟩⟩ p = .ok (y.toNat * 256 + z.toNat, p + 2) := by
  obtain ⟨-, -, h2⟩ := dr_get h
  show ((Jvm.ClassFile.Reader.u1 >>= fun hi => Jvm.ClassFile.Reader.u1 >>= fun lo => pure (hi * 256 + lo)) : Jvm.ClassFile.Decoder Nat) ⟨⟨l⟩⟩ p = _
  rw [q_bind (q_u1 h), q_bind (q_u1 h2)]; rfl
theorem q_dec {c : ByteArray} {pc n : Nat} {i : Jvm.ClassFile.Instr} (h : Jvm.ClassFile.Decoder.instr pc c pc = .ok (i, n)) : decode c pc = .ok (i, n - pc) := by
  have e : decode c pc = Except.bind (Jvm.ClassFile.Decoder.instr pc c pc) (fun v => .ok (v.1, v.2 - pc)) := rfl
  rw [e, h]; rfl
theorem q_decN {c : ByteArray} {pc n : Nat} {i : Jvm.ClassFile.Instr} (h : Jvm.ClassFile.Decoder.instr pc c pc = .ok (i, pc + n)) : decode c pc = .ok (i, n) := by
  rw [q_dec h, Nat.add_sub_cancel_left]
theorem q_op {op p : Nat} {c : ByteArray} {r : Except Jvm.ClassFile.DecodeError (Jvm.ClassFile.Instr × Nat)} {f : Nat → Jvm.ClassFile.Decoder Jvm.ClassFile.Instr} {x : UInt8} (h : (Jvm.ClassFile.Reader.u1 : Jvm.ClassFile.Decoder Nat) c p = .ok (x.toNat, p + 1)) (hx : x.toNat = op) (hf : f op c (p + 1) = r) : (Jvm.ClassFile.Reader.u1 >>= f) c p = r := by
  rw [q_bind h, hx]; exact hf
theorem q_s1 {l : List UInt8} {p : Nat} {x : UInt8} {t : List UInt8} (h : drp l p = x :: t) : (Jvm.ClassFile.Reader.s1 : Jvm.ClassFile.Decoder Int) ⟨⟨l⟩⟩ p = .ok (Jvm.ClassFile.Reader.signed 8 x.toNat, p + 1) := by
  unfold Jvm.ClassFile.Reader.s1; exact q_map (q_u1 h)
theorem q_s2 {l : List UInt8} {p : Nat} {y z : UInt8} {t : List UInt8} (h : drp l p = y :: z :: t) : (Jvm.ClassFile.Reader.s2 : Jvm.ClassFile.Decoder Int) ⟨⟨l⟩⟩ p = .ok (Jvm.ClassFile.Reader.signed 16 (y.toNat * 256 + z.toNat), p + 2) := by
  unfold Jvm.ClassFile.Reader.s2; exact q_map (q_u2 h)
def bt_n (op : Nat) (d : List UInt8) : Bool := match d with
  | x :: _ => Nat.beq x.toNat op
  | [] => false
def bt_u1 (op v : Nat) (d : List UInt8) : Bool := match d with
  | x :: y :: _ => and (Nat.beq x.toNat op) (Nat.beq y.toNat v)
  | _ => false
def bt_s1 (op : Nat) (v : Int) (d : List UInt8) : Bool := match d with
  | x :: y :: _ => and (Nat.beq x.toNat op) (decide (Jvm.ClassFile.Reader.signed 8 y.toNat = v))
  | _ => false
def bt_u2 (op v : Nat) (d : List UInt8) : Bool := match d with
  | x :: y :: z :: _ => and (Nat.beq x.toNat op) (Nat.beq (y.toNat * 256 + z.toNat) v)
  | _ => false
def bt_s2 (op : Nat) (v : Int) (d : List UInt8) : Bool := match d with
  | x :: y :: z :: _ => and (Nat.beq x.toNat op) (decide (Jvm.ClassFile.Reader.signed 16 (y.toNat * 256 + z.toNat) = v))
  | _ => false
def bt_ii (op v : Nat) (w : Int) (d : List UInt8) : Bool := match d with
  | x :: y :: z :: _ => and (Nat.beq x.toNat op) (and (Nat.beq y.toNat v) (decide (Jvm.ClassFile.Reader.signed 8 z.toNat = w)))
  | _ => false
theorem drq_bt {f : List UInt8 → Bool} {l : List UInt8} {pc : Nat} (a b : Nat) (hab : a + b = pc) (h : f (drp (drp l a) b) = true) : f (drp l pc) = true := by
  have e : drp (drp l a) b = drp l pc := by rw [drp_eq, drp_eq, drp_eq, List.drop_drop, hab]
  rw [← e]; exact h
theorem an_b {a b : Bool} (h : and a b = true) : a = true ∧ b = true := by cases a <;> cases b <;> first | exact ⟨rfl, rfl⟩ | cases h
theorem bt_n_ok {l : List UInt8} {pc op : Nat} (h : bt_n op (drp (ByteArray.mk ⟨l⟩).data.toList pc) = true) : ∃ x t, drp l pc = x :: t ∧ x.toNat = op := by
  have h : (match drp l pc with | x :: _ => Nat.beq x.toNat op | [] => false) = true := h
  revert h
  cases drp l pc with
  | nil => intro h; cases h
  | cons x t => intro h; exact ⟨x, t, rfl, Nat.eq_of_beq_eq_true h⟩
theorem bt_u1_ok {l : List UInt8} {pc op v : Nat} (h : bt_u1 op v (drp (ByteArray.mk ⟨l⟩).data.toList pc) = true) : ∃ x y t, drp l pc = x :: y :: t ∧ x.toNat = op ∧ y.toNat = v := by
  have h : (match drp l pc with | x :: y :: _ => and (Nat.beq x.toNat op) (Nat.beq y.toNat v) | _ => false) = true := h
  revert h
  rcases drp l pc with _ | ⟨x, _ | ⟨y, t⟩⟩ <;> intro h
  · cases h
  · cases h
  · exact ⟨x, y, t, rfl, Nat.eq_of_beq_eq_true (an_b h).1, Nat.eq_of_beq_eq_true (an_b h).2⟩
theorem bt_s1_ok {l : List UInt8} {pc op : Nat} {v : Int} (h : bt_s1 op v (drp (ByteArray.mk ⟨l⟩).data.toList pc) = true) : ∃ x y t, drp l pc = x :: y :: t ∧ x.toNat = op ∧ Jvm.ClassFile.Reader.signed 8 y.toNat = v := by
  have h : (match drp l pc with | x :: y :: _ => and (Nat.beq x.toNat op) (decide (Jvm.ClassFile.Reader.signed 8 y.toNat = v)) | _ => false) = true := h
  revert h
  rcases drp l pc with _ | ⟨x, _ | ⟨y, t⟩⟩ <;> intro h
  · cases h
  · cases h
  · exact ⟨x, y, t, rfl, Nat.eq_of_beq_eq_true (an_b h).1, of_decide_eq_true (an_b h).2⟩
theorem bt_u2_ok {l : List UInt8} {pc op v : Nat} (h : bt_u2 op v (drp (ByteArray.mk ⟨l⟩).data.toList pc) = true) : ∃ x y z t, drp l pc = x :: y :: z :: t ∧ x.toNat = op ∧ y.toNat * 256 + z.toNat = v := by
  have h : (match drp l pc with | x :: y :: z :: _ => and (Nat.beq x.toNat op) (Nat.beq (y.toNat * 256 + z.toNat) v) | _ => false) = true := h
  revert h
  rcases drp l pc with _ | ⟨x, _ | ⟨y, _ | ⟨z, t⟩⟩⟩ <;> intro h
  · cases h
  · cases h
  · cases h
  · exact ⟨x, y, z, t, rfl, Nat.eq_of_beq_eq_true (an_b h).1, Nat.eq_of_beq_eq_true (an_b h).2⟩
theorem bt_s2_ok {l : List UInt8} {pc op : Nat} {v : Int} (h : bt_s2 op v (drp (ByteArray.mk ⟨l⟩).data.toList pc) = true) : ∃ x y z t, drp l pc = x :: y :: z :: t ∧ x.toNat = op ∧ Jvm.ClassFile.Reader.signed 16 (y.toNat * 256 + z.toNat) = v := by
  have h : (match drp l pc with | x :: y :: z :: _ => and (Nat.beq x.toNat op) (decide (Jvm.ClassFile.Reader.signed 16 (y.toNat * 256 + z.toNat) = v)) | _ => false) = true := h
  revert h
  rcases drp l pc with _ | ⟨x, _ | ⟨y, _ | ⟨z, t⟩⟩⟩ <;> intro h
  · cases h
  · cases h
  · cases h
  · exact ⟨x, y, z, t, rfl, Nat.eq_of_beq_eq_true (an_b h).1, of_decide_eq_true (an_b h).2⟩
theorem bt_ii_ok {l : List UInt8} {pc op v : Nat} {w : Int} (h : bt_ii op v w (drp (ByteArray.mk ⟨l⟩).data.toList pc) = true) : ∃ x y z t, drp l pc = x :: y :: z :: t ∧ x.toNat = op ∧ y.toNat = v ∧ Jvm.ClassFile.Reader.signed 8 z.toNat = w := by
  have h : (match drp l pc with | x :: y :: z :: _ => and (Nat.beq x.toNat op) (and (Nat.beq y.toNat v) (decide (Jvm.ClassFile.Reader.signed 8 z.toNat = w))) | _ => false) = true := h
  revert h
  rcases drp l pc with _ | ⟨x, _ | ⟨y, _ | ⟨z, t⟩⟩⟩ <;> intro h
  · cases h
  · cases h
  · cases h
  · exact ⟨x, y, z, t, rfl, Nat.eq_of_beq_eq_true (an_b h).1, Nat.eq_of_beq_eq_true (an_b (an_b h).2).1, of_decide_eq_true (an_b (an_b h).2).2⟩
set_option maxRecDepth 100000 in
theorem dq_1 {c : ByteArray} {pc : Nat} (h : bt_n 1 (drp c.data.toList pc) = true) : decode c pc = .ok (.aconst_null, 1) := by
  obtain ⟨⟨l⟩⟩ := c
  obtain ⟨x, t, hd, hx⟩ := bt_n_ok h
  refine q_decN (n := 1) ?_
  unfold Jvm.ClassFile.Decoder.instr
  exact q_op (q_u1 hd) hx rfl
set_option maxRecDepth 100000 in
theorem dq_10 {c : ByteArray} {pc : Nat} (h : bt_n 10 (drp c.data.toList pc) = true) : decode c pc = .ok (.lconst 1, 1) := by
  obtain ⟨⟨l⟩⟩ := c
  obtain ⟨x, t, hd, hx⟩ := bt_n_ok h
  refine q_decN (n := 1) ?_
  unfold Jvm.ClassFile.Decoder.instr
  exact q_op (q_u1 hd) hx rfl
set_option maxRecDepth 100000 in
theorem dq_100 {c : ByteArray} {pc : Nat} (h : bt_n 100 (drp c.data.toList pc) = true) : decode c pc = .ok (.isub, 1) := by
  obtain ⟨⟨l⟩⟩ := c
  obtain ⟨x, t, hd, hx⟩ := bt_n_ok h
  refine q_decN (n := 1) ?_
  unfold Jvm.ClassFile.Decoder.instr
  exact q_op (q_u1 hd) hx rfl
set_option maxRecDepth 100000 in
theorem dq_101 {c : ByteArray} {pc : Nat} (h : bt_n 101 (drp c.data.toList pc) = true) : decode c pc = .ok (.lsub, 1) := by
  obtain ⟨⟨l⟩⟩ := c
  obtain ⟨x, t, hd, hx⟩ := bt_n_ok h
  refine q_decN (n := 1) ?_
  unfold Jvm.ClassFile.Decoder.instr
  exact q_op (q_u1 hd) hx rfl
set_option maxRecDepth 100000 in
theorem dq_104 {c : ByteArray} {pc : Nat} (h : bt_n 104 (drp c.data.toList pc) = true) : decode c pc = .ok (.imul, 1) := by
  obtain ⟨⟨l⟩⟩ := c
  obtain ⟨x, t, hd, hx⟩ := bt_n_ok h
  refine q_decN (n := 1) ?_
  unfold Jvm.ClassFile.Decoder.instr
  exact q_op (q_u1 hd) hx rfl
set_option maxRecDepth 100000 in
theorem dq_105 {c : ByteArray} {pc : Nat} (h : bt_n 105 (drp c.data.toList pc) = true) : decode c pc = .ok (.lmul, 1) := by
  obtain ⟨⟨l⟩⟩ := c
  obtain ⟨x, t, hd, hx⟩ := bt_n_ok h
  refine q_decN (n := 1) ?_
  unfold Jvm.ClassFile.Decoder.instr
  exact q_op (q_u1 hd) hx rfl
set_option maxRecDepth 100000 in
theorem dq_108 {c : ByteArray} {pc : Nat} (h : bt_n 108 (drp c.data.toList pc) = true) : decode c pc = .ok (.idiv, 1) := by
  obtain ⟨⟨l⟩⟩ := c
  obtain ⟨x, t, hd, hx⟩ := bt_n_ok h
  refine q_decN (n := 1) ?_
  unfold Jvm.ClassFile.Decoder.instr
  exact q_op (q_u1 hd) hx rfl
set_option maxRecDepth 100000 in
theorem dq_109 {c : ByteArray} {pc : Nat} (h : bt_n 109 (drp c.data.toList pc) = true) : decode c pc = .ok (.ldiv, 1) := by
  obtain ⟨⟨l⟩⟩ := c
  obtain ⟨x, t, hd, hx⟩ := bt_n_ok h
  refine q_decN (n := 1) ?_
  unfold Jvm.ClassFile.Decoder.instr
  exact q_op (q_u1 hd) hx rfl
set_option maxRecDepth 100000 in
theorem dq_112 {c : ByteArray} {pc : Nat} (h : bt_n 112 (drp c.data.toList pc) = true) : decode c pc = .ok (.irem, 1) := by
  obtain ⟨⟨l⟩⟩ := c
  obtain ⟨x, t, hd, hx⟩ := bt_n_ok h
  refine q_decN (n := 1) ?_
  unfold Jvm.ClassFile.Decoder.instr
  exact q_op (q_u1 hd) hx rfl
set_option maxRecDepth 100000 in
theorem dq_113 {c : ByteArray} {pc : Nat} (h : bt_n 113 (drp c.data.toList pc) = true) : decode c pc = .ok (.lrem, 1) := by
  obtain ⟨⟨l⟩⟩ := c
  obtain ⟨x, t, hd, hx⟩ := bt_n_ok h
  refine q_decN (n := 1) ?_
  unfold Jvm.ClassFile.Decoder.instr
  exact q_op (q_u1 hd) hx rfl
set_option maxRecDepth 100000 in
theorem dq_116 {c : ByteArray} {pc : Nat} (h : bt_n 116 (drp c.data.toList pc) = true) : decode c pc = .ok (.ineg, 1) := by
  obtain ⟨⟨l⟩⟩ := c
  obtain ⟨x, t, hd, hx⟩ := bt_n_ok h
  refine q_decN (n := 1) ?_
  unfold Jvm.ClassFile.Decoder.instr
  exact q_op (q_u1 hd) hx rfl
set_option maxRecDepth 100000 in
theorem dq_117 {c : ByteArray} {pc : Nat} (h : bt_n 117 (drp c.data.toList pc) = true) : decode c pc = .ok (.lneg, 1) := by
  obtain ⟨⟨l⟩⟩ := c
  obtain ⟨x, t, hd, hx⟩ := bt_n_ok h
  refine q_decN (n := 1) ?_
  unfold Jvm.ClassFile.Decoder.instr
  exact q_op (q_u1 hd) hx rfl
set_option maxRecDepth 100000 in
theorem dq_122 {c : ByteArray} {pc : Nat} (h : bt_n 122 (drp c.data.toList pc) = true) : decode c pc = .ok (.ishr, 1) := by
  obtain ⟨⟨l⟩⟩ := c
  obtain ⟨x, t, hd, hx⟩ := bt_n_ok h
  refine q_decN (n := 1) ?_
  unfold Jvm.ClassFile.Decoder.instr
  exact q_op (q_u1 hd) hx rfl
set_option maxRecDepth 100000 in
theorem dq_123 {c : ByteArray} {pc : Nat} (h : bt_n 123 (drp c.data.toList pc) = true) : decode c pc = .ok (.lshr, 1) := by
  obtain ⟨⟨l⟩⟩ := c
  obtain ⟨x, t, hd, hx⟩ := bt_n_ok h
  refine q_decN (n := 1) ?_
  unfold Jvm.ClassFile.Decoder.instr
  exact q_op (q_u1 hd) hx rfl
set_option maxRecDepth 100000 in
theorem dq_126 {c : ByteArray} {pc : Nat} (h : bt_n 126 (drp c.data.toList pc) = true) : decode c pc = .ok (.iand, 1) := by
  obtain ⟨⟨l⟩⟩ := c
  obtain ⟨x, t, hd, hx⟩ := bt_n_ok h
  refine q_decN (n := 1) ?_
  unfold Jvm.ClassFile.Decoder.instr
  exact q_op (q_u1 hd) hx rfl
set_option maxRecDepth 100000 in
theorem dq_127 {c : ByteArray} {pc : Nat} (h : bt_n 127 (drp c.data.toList pc) = true) : decode c pc = .ok (.land, 1) := by
  obtain ⟨⟨l⟩⟩ := c
  obtain ⟨x, t, hd, hx⟩ := bt_n_ok h
  refine q_decN (n := 1) ?_
  unfold Jvm.ClassFile.Decoder.instr
  exact q_op (q_u1 hd) hx rfl
set_option maxRecDepth 100000 in
theorem dq_128 {c : ByteArray} {pc : Nat} (h : bt_n 128 (drp c.data.toList pc) = true) : decode c pc = .ok (.ior, 1) := by
  obtain ⟨⟨l⟩⟩ := c
  obtain ⟨x, t, hd, hx⟩ := bt_n_ok h
  refine q_decN (n := 1) ?_
  unfold Jvm.ClassFile.Decoder.instr
  exact q_op (q_u1 hd) hx rfl
set_option maxRecDepth 100000 in
theorem dq_130 {c : ByteArray} {pc : Nat} (h : bt_n 130 (drp c.data.toList pc) = true) : decode c pc = .ok (.ixor, 1) := by
  obtain ⟨⟨l⟩⟩ := c
  obtain ⟨x, t, hd, hx⟩ := bt_n_ok h
  refine q_decN (n := 1) ?_
  unfold Jvm.ClassFile.Decoder.instr
  exact q_op (q_u1 hd) hx rfl
set_option maxRecDepth 100000 in
theorem dq_131 {c : ByteArray} {pc : Nat} (h : bt_n 131 (drp c.data.toList pc) = true) : decode c pc = .ok (.lxor, 1) := by
  obtain ⟨⟨l⟩⟩ := c
  obtain ⟨x, t, hd, hx⟩ := bt_n_ok h
  refine q_decN (n := 1) ?_
  unfold Jvm.ClassFile.Decoder.instr
  exact q_op (q_u1 hd) hx rfl
set_option maxRecDepth 100000 in
theorem dq_132 {c : ByteArray} {pc v : Nat} {w : Int} (h : bt_ii 132 v w (drp c.data.toList pc) = true) : decode c pc = .ok (.iinc v w, 3) := by
  obtain ⟨⟨l⟩⟩ := c
  obtain ⟨x, y, z, t, hd, hx, hy, hz⟩ := bt_ii_ok h
  obtain ⟨-, -, h2⟩ := dr_get hd
  obtain ⟨-, -, h3⟩ := dr_get h2
  subst hz
  refine q_decN (n := 3) ?_
  unfold Jvm.ClassFile.Decoder.instr
  refine q_op (q_u1 hd) hx ?_
  show ((Jvm.ClassFile.Reader.u1 >>= fun i => Jvm.ClassFile.Reader.s1 >>= fun j => pure (.iinc i j)) : Jvm.ClassFile.Decoder Jvm.ClassFile.Instr) ⟨⟨l⟩⟩ (pc + 1) = _
  refine q_op (q_u1 h2) hy ?_
  exact (q_bind (q_s1 h3)).trans rfl
set_option maxRecDepth 100000 in
theorem dq_133 {c : ByteArray} {pc : Nat} (h : bt_n 133 (drp c.data.toList pc) = true) : decode c pc = .ok (.i2l, 1) := by
  obtain ⟨⟨l⟩⟩ := c
  obtain ⟨x, t, hd, hx⟩ := bt_n_ok h
  refine q_decN (n := 1) ?_
  unfold Jvm.ClassFile.Decoder.instr
  exact q_op (q_u1 hd) hx rfl
set_option maxRecDepth 100000 in
theorem dq_136 {c : ByteArray} {pc : Nat} (h : bt_n 136 (drp c.data.toList pc) = true) : decode c pc = .ok (.l2i, 1) := by
  obtain ⟨⟨l⟩⟩ := c
  obtain ⟨x, t, hd, hx⟩ := bt_n_ok h
  refine q_decN (n := 1) ?_
  unfold Jvm.ClassFile.Decoder.instr
  exact q_op (q_u1 hd) hx rfl
set_option maxRecDepth 100000 in
theorem dq_145 {c : ByteArray} {pc : Nat} (h : bt_n 145 (drp c.data.toList pc) = true) : decode c pc = .ok (.i2b, 1) := by
  obtain ⟨⟨l⟩⟩ := c
  obtain ⟨x, t, hd, hx⟩ := bt_n_ok h
  refine q_decN (n := 1) ?_
  unfold Jvm.ClassFile.Decoder.instr
  exact q_op (q_u1 hd) hx rfl
set_option maxRecDepth 100000 in
theorem dq_146 {c : ByteArray} {pc : Nat} (h : bt_n 146 (drp c.data.toList pc) = true) : decode c pc = .ok (.i2c, 1) := by
  obtain ⟨⟨l⟩⟩ := c
  obtain ⟨x, t, hd, hx⟩ := bt_n_ok h
  refine q_decN (n := 1) ?_
  unfold Jvm.ClassFile.Decoder.instr
  exact q_op (q_u1 hd) hx rfl
set_option maxRecDepth 100000 in
theorem dq_148 {c : ByteArray} {pc : Nat} (h : bt_n 148 (drp c.data.toList pc) = true) : decode c pc = .ok (.lcmp, 1) := by
  obtain ⟨⟨l⟩⟩ := c
  obtain ⟨x, t, hd, hx⟩ := bt_n_ok h
  refine q_decN (n := 1) ?_
  unfold Jvm.ClassFile.Decoder.instr
  exact q_op (q_u1 hd) hx rfl
set_option maxRecDepth 100000 in
theorem dq_153 {c : ByteArray} {pc : Nat} {v : Int} (h : bt_s2 153 v (drp c.data.toList pc) = true) : decode c pc = .ok (.ifCond .eq v, 3) := by
  obtain ⟨⟨l⟩⟩ := c
  obtain ⟨x, y, z, t, hd, hx, hy⟩ := bt_s2_ok h
  obtain ⟨-, -, h2⟩ := dr_get hd
  subst hy
  refine q_decN (n := 3) ?_
  unfold Jvm.ClassFile.Decoder.instr
  refine q_op (q_u1 hd) hx ?_
  show ((Jvm.ClassFile.Reader.s2 >>= fun i => pure (.ifCond .eq i)) : Jvm.ClassFile.Decoder Jvm.ClassFile.Instr) ⟨⟨l⟩⟩ (pc + 1) = _
  exact (q_bind (q_s2 h2)).trans rfl
set_option maxRecDepth 100000 in
theorem dq_154 {c : ByteArray} {pc : Nat} {v : Int} (h : bt_s2 154 v (drp c.data.toList pc) = true) : decode c pc = .ok (.ifCond .ne v, 3) := by
  obtain ⟨⟨l⟩⟩ := c
  obtain ⟨x, y, z, t, hd, hx, hy⟩ := bt_s2_ok h
  obtain ⟨-, -, h2⟩ := dr_get hd
  subst hy
  refine q_decN (n := 3) ?_
  unfold Jvm.ClassFile.Decoder.instr
  refine q_op (q_u1 hd) hx ?_
  show ((Jvm.ClassFile.Reader.s2 >>= fun i => pure (.ifCond .ne i)) : Jvm.ClassFile.Decoder Jvm.ClassFile.Instr) ⟨⟨l⟩⟩ (pc + 1) = _
  exact (q_bind (q_s2 h2)).trans rfl
set_option maxRecDepth 100000 in
theorem dq_155 {c : ByteArray} {pc : Nat} {v : Int} (h : bt_s2 155 v (drp c.data.toList pc) = true) : decode c pc = .ok (.ifCond .lt v, 3) := by
  obtain ⟨⟨l⟩⟩ := c
  obtain ⟨x, y, z, t, hd, hx, hy⟩ := bt_s2_ok h
  obtain ⟨-, -, h2⟩ := dr_get hd
  subst hy
  refine q_decN (n := 3) ?_
  unfold Jvm.ClassFile.Decoder.instr
  refine q_op (q_u1 hd) hx ?_
  show ((Jvm.ClassFile.Reader.s2 >>= fun i => pure (.ifCond .lt i)) : Jvm.ClassFile.Decoder Jvm.ClassFile.Instr) ⟨⟨l⟩⟩ (pc + 1) = _
  exact (q_bind (q_s2 h2)).trans rfl
set_option maxRecDepth 100000 in
theorem dq_156 {c : ByteArray} {pc : Nat} {v : Int} (h : bt_s2 156 v (drp c.data.toList pc) = true) : decode c pc = .ok (.ifCond .ge v, 3) := by
  obtain ⟨⟨l⟩⟩ := c
  obtain ⟨x, y, z, t, hd, hx, hy⟩ := bt_s2_ok h
  obtain ⟨-, -, h2⟩ := dr_get hd
  subst hy
  refine q_decN (n := 3) ?_
  unfold Jvm.ClassFile.Decoder.instr
  refine q_op (q_u1 hd) hx ?_
  show ((Jvm.ClassFile.Reader.s2 >>= fun i => pure (.ifCond .ge i)) : Jvm.ClassFile.Decoder Jvm.ClassFile.Instr) ⟨⟨l⟩⟩ (pc + 1) = _
  exact (q_bind (q_s2 h2)).trans rfl
set_option maxRecDepth 100000 in
theorem dq_157 {c : ByteArray} {pc : Nat} {v : Int} (h : bt_s2 157 v (drp c.data.toList pc) = true) : decode c pc = .ok (.ifCond .gt v, 3) := by
  obtain ⟨⟨l⟩⟩ := c
  obtain ⟨x, y, z, t, hd, hx, hy⟩ := bt_s2_ok h
  obtain ⟨-, -, h2⟩ := dr_get hd
  subst hy
  refine q_decN (n := 3) ?_
  unfold Jvm.ClassFile.Decoder.instr
  refine q_op (q_u1 hd) hx ?_
  show ((Jvm.ClassFile.Reader.s2 >>= fun i => pure (.ifCond .gt i)) : Jvm.ClassFile.Decoder Jvm.ClassFile.Instr) ⟨⟨l⟩⟩ (pc + 1) = _
  exact (q_bind (q_s2 h2)).trans rfl
set_option maxRecDepth 100000 in
theorem dq_158 {c : ByteArray} {pc : Nat} {v : Int} (h : bt_s2 158 v (drp c.data.toList pc) = true) : decode c pc = .ok (.ifCond .le v, 3) := by
  obtain ⟨⟨l⟩⟩ := c
  obtain ⟨x, y, z, t, hd, hx, hy⟩ := bt_s2_ok h
  obtain ⟨-, -, h2⟩ := dr_get hd
  subst hy
  refine q_decN (n := 3) ?_
  unfold Jvm.ClassFile.Decoder.instr
  refine q_op (q_u1 hd) hx ?_
  show ((Jvm.ClassFile.Reader.s2 >>= fun i => pure (.ifCond .le i)) : Jvm.ClassFile.Decoder Jvm.ClassFile.Instr) ⟨⟨l⟩⟩ (pc + 1) = _
  exact (q_bind (q_s2 h2)).trans rfl
set_option maxRecDepth 100000 in
theorem dq_159 {c : ByteArray} {pc : Nat} {v : Int} (h : bt_s2 159 v (drp c.data.toList pc) = true) : decode c pc = .ok (.if_icmp .eq v, 3) := by
  obtain ⟨⟨l⟩⟩ := c
  obtain ⟨x, y, z, t, hd, hx, hy⟩ := bt_s2_ok h
  obtain ⟨-, -, h2⟩ := dr_get hd
  subst hy
  refine q_decN (n := 3) ?_
  unfold Jvm.ClassFile.Decoder.instr
  refine q_op (q_u1 hd) hx ?_
  show ((Jvm.ClassFile.Reader.s2 >>= fun i => pure (.if_icmp .eq i)) : Jvm.ClassFile.Decoder Jvm.ClassFile.Instr) ⟨⟨l⟩⟩ (pc + 1) = _
  exact (q_bind (q_s2 h2)).trans rfl
set_option maxRecDepth 100000 in
theorem dq_16 {c : ByteArray} {pc : Nat} {v : Int} (h : bt_s1 16 v (drp c.data.toList pc) = true) : decode c pc = .ok (.bipush v, 2) := by
  obtain ⟨⟨l⟩⟩ := c
  obtain ⟨x, y, t, hd, hx, hy⟩ := bt_s1_ok h
  obtain ⟨-, -, h2⟩ := dr_get hd
  subst hy
  refine q_decN (n := 2) ?_
  unfold Jvm.ClassFile.Decoder.instr
  refine q_op (q_u1 hd) hx ?_
  show ((Jvm.ClassFile.Reader.s1 >>= fun i => pure (.bipush i)) : Jvm.ClassFile.Decoder Jvm.ClassFile.Instr) ⟨⟨l⟩⟩ (pc + 1) = _
  exact (q_bind (q_s1 h2)).trans rfl
set_option maxRecDepth 100000 in
theorem dq_160 {c : ByteArray} {pc : Nat} {v : Int} (h : bt_s2 160 v (drp c.data.toList pc) = true) : decode c pc = .ok (.if_icmp .ne v, 3) := by
  obtain ⟨⟨l⟩⟩ := c
  obtain ⟨x, y, z, t, hd, hx, hy⟩ := bt_s2_ok h
  obtain ⟨-, -, h2⟩ := dr_get hd
  subst hy
  refine q_decN (n := 3) ?_
  unfold Jvm.ClassFile.Decoder.instr
  refine q_op (q_u1 hd) hx ?_
  show ((Jvm.ClassFile.Reader.s2 >>= fun i => pure (.if_icmp .ne i)) : Jvm.ClassFile.Decoder Jvm.ClassFile.Instr) ⟨⟨l⟩⟩ (pc + 1) = _
  exact (q_bind (q_s2 h2)).trans rfl
set_option maxRecDepth 100000 in
theorem dq_161 {c : ByteArray} {pc : Nat} {v : Int} (h : bt_s2 161 v (drp c.data.toList pc) = true) : decode c pc = .ok (.if_icmp .lt v, 3) := by
  obtain ⟨⟨l⟩⟩ := c
  obtain ⟨x, y, z, t, hd, hx, hy⟩ := bt_s2_ok h
  obtain ⟨-, -, h2⟩ := dr_get hd
  subst hy
  refine q_decN (n := 3) ?_
  unfold Jvm.ClassFile.Decoder.instr
  refine q_op (q_u1 hd) hx ?_
  show ((Jvm.ClassFile.Reader.s2 >>= fun i => pure (.if_icmp .lt i)) : Jvm.ClassFile.Decoder Jvm.ClassFile.Instr) ⟨⟨l⟩⟩ (pc + 1) = _
  exact (q_bind (q_s2 h2)).trans rfl
set_option maxRecDepth 100000 in
theorem dq_162 {c : ByteArray} {pc : Nat} {v : Int} (h : bt_s2 162 v (drp c.data.toList pc) = true) : decode c pc = .ok (.if_icmp .ge v, 3) := by
  obtain ⟨⟨l⟩⟩ := c
  obtain ⟨x, y, z, t, hd, hx, hy⟩ := bt_s2_ok h
  obtain ⟨-, -, h2⟩ := dr_get hd
  subst hy
  refine q_decN (n := 3) ?_
  unfold Jvm.ClassFile.Decoder.instr
  refine q_op (q_u1 hd) hx ?_
  show ((Jvm.ClassFile.Reader.s2 >>= fun i => pure (.if_icmp .ge i)) : Jvm.ClassFile.Decoder Jvm.ClassFile.Instr) ⟨⟨l⟩⟩ (pc + 1) = _
  exact (q_bind (q_s2 h2)).trans rfl
set_option maxRecDepth 100000 in
theorem dq_163 {c : ByteArray} {pc : Nat} {v : Int} (h : bt_s2 163 v (drp c.data.toList pc) = true) : decode c pc = .ok (.if_icmp .gt v, 3) := by
  obtain ⟨⟨l⟩⟩ := c
  obtain ⟨x, y, z, t, hd, hx, hy⟩ := bt_s2_ok h
  obtain ⟨-, -, h2⟩ := dr_get hd
  subst hy
  refine q_decN (n := 3) ?_
  unfold Jvm.ClassFile.Decoder.instr
  refine q_op (q_u1 hd) hx ?_
  show ((Jvm.ClassFile.Reader.s2 >>= fun i => pure (.if_icmp .gt i)) : Jvm.ClassFile.Decoder Jvm.ClassFile.Instr) ⟨⟨l⟩⟩ (pc + 1) = _
  exact (q_bind (q_s2 h2)).trans rfl
set_option maxRecDepth 100000 in
theorem dq_164 {c : ByteArray} {pc : Nat} {v : Int} (h : bt_s2 164 v (drp c.data.toList pc) = true) : decode c pc = .ok (.if_icmp .le v, 3) := by
  obtain ⟨⟨l⟩⟩ := c
  obtain ⟨x, y, z, t, hd, hx, hy⟩ := bt_s2_ok h
  obtain ⟨-, -, h2⟩ := dr_get hd
  subst hy
  refine q_decN (n := 3) ?_
  unfold Jvm.ClassFile.Decoder.instr
  refine q_op (q_u1 hd) hx ?_
  show ((Jvm.ClassFile.Reader.s2 >>= fun i => pure (.if_icmp .le i)) : Jvm.ClassFile.Decoder Jvm.ClassFile.Instr) ⟨⟨l⟩⟩ (pc + 1) = _
  exact (q_bind (q_s2 h2)).trans rfl
set_option maxRecDepth 100000 in
theorem dq_167 {c : ByteArray} {pc : Nat} {v : Int} (h : bt_s2 167 v (drp c.data.toList pc) = true) : decode c pc = .ok (.goto v, 3) := by
  obtain ⟨⟨l⟩⟩ := c
  obtain ⟨x, y, z, t, hd, hx, hy⟩ := bt_s2_ok h
  obtain ⟨-, -, h2⟩ := dr_get hd
  subst hy
  refine q_decN (n := 3) ?_
  unfold Jvm.ClassFile.Decoder.instr
  refine q_op (q_u1 hd) hx ?_
  show ((Jvm.ClassFile.Reader.s2 >>= fun i => pure (.goto i)) : Jvm.ClassFile.Decoder Jvm.ClassFile.Instr) ⟨⟨l⟩⟩ (pc + 1) = _
  exact (q_bind (q_s2 h2)).trans rfl
set_option maxRecDepth 100000 in
theorem dq_17 {c : ByteArray} {pc : Nat} {v : Int} (h : bt_s2 17 v (drp c.data.toList pc) = true) : decode c pc = .ok (.sipush v, 3) := by
  obtain ⟨⟨l⟩⟩ := c
  obtain ⟨x, y, z, t, hd, hx, hy⟩ := bt_s2_ok h
  obtain ⟨-, -, h2⟩ := dr_get hd
  subst hy
  refine q_decN (n := 3) ?_
  unfold Jvm.ClassFile.Decoder.instr
  refine q_op (q_u1 hd) hx ?_
  show ((Jvm.ClassFile.Reader.s2 >>= fun i => pure (.sipush i)) : Jvm.ClassFile.Decoder Jvm.ClassFile.Instr) ⟨⟨l⟩⟩ (pc + 1) = _
  exact (q_bind (q_s2 h2)).trans rfl
set_option maxRecDepth 100000 in
theorem dq_172 {c : ByteArray} {pc : Nat} (h : bt_n 172 (drp c.data.toList pc) = true) : decode c pc = .ok (.ireturn, 1) := by
  obtain ⟨⟨l⟩⟩ := c
  obtain ⟨x, t, hd, hx⟩ := bt_n_ok h
  refine q_decN (n := 1) ?_
  unfold Jvm.ClassFile.Decoder.instr
  exact q_op (q_u1 hd) hx rfl
set_option maxRecDepth 100000 in
theorem dq_173 {c : ByteArray} {pc : Nat} (h : bt_n 173 (drp c.data.toList pc) = true) : decode c pc = .ok (.lreturn, 1) := by
  obtain ⟨⟨l⟩⟩ := c
  obtain ⟨x, t, hd, hx⟩ := bt_n_ok h
  refine q_decN (n := 1) ?_
  unfold Jvm.ClassFile.Decoder.instr
  exact q_op (q_u1 hd) hx rfl
set_option maxRecDepth 100000 in
theorem dq_176 {c : ByteArray} {pc : Nat} (h : bt_n 176 (drp c.data.toList pc) = true) : decode c pc = .ok (.areturn, 1) := by
  obtain ⟨⟨l⟩⟩ := c
  obtain ⟨x, t, hd, hx⟩ := bt_n_ok h
  refine q_decN (n := 1) ?_
  unfold Jvm.ClassFile.Decoder.instr
  exact q_op (q_u1 hd) hx rfl
set_option maxRecDepth 100000 in
theorem dq_177 {c : ByteArray} {pc : Nat} (h : bt_n 177 (drp c.data.toList pc) = true) : decode c pc = .ok (.return_, 1) := by
  obtain ⟨⟨l⟩⟩ := c
  obtain ⟨x, t, hd, hx⟩ := bt_n_ok h
  refine q_decN (n := 1) ?_
  unfold Jvm.ClassFile.Decoder.instr
  exact q_op (q_u1 hd) hx rfl
set_option maxRecDepth 100000 in
theorem dq_178 {c : ByteArray} {pc v : Nat} (h : bt_u2 178 v (drp c.data.toList pc) = true) : decode c pc = .ok (.getstatic v, 3) := by
  obtain ⟨⟨l⟩⟩ := c
  obtain ⟨x, y, z, t, hd, hx, hy⟩ := bt_u2_ok h
  obtain ⟨-, -, h2⟩ := dr_get hd
  subst hy
  refine q_decN (n := 3) ?_
  unfold Jvm.ClassFile.Decoder.instr
  refine q_op (q_u1 hd) hx ?_
  show ((Jvm.ClassFile.Reader.u2 >>= fun i => pure (.getstatic i)) : Jvm.ClassFile.Decoder Jvm.ClassFile.Instr) ⟨⟨l⟩⟩ (pc + 1) = _
  exact (q_bind (q_u2 h2)).trans rfl
set_option maxRecDepth 100000 in
theorem dq_18 {c : ByteArray} {pc v : Nat} (h : bt_u1 18 v (drp c.data.toList pc) = true) : decode c pc = .ok (.ldc v, 2) := by
  obtain ⟨⟨l⟩⟩ := c
  obtain ⟨x, y, t, hd, hx, hy⟩ := bt_u1_ok h
  obtain ⟨-, -, h2⟩ := dr_get hd
  refine q_decN (n := 2) ?_
  unfold Jvm.ClassFile.Decoder.instr
  refine q_op (q_u1 hd) hx ?_
  show ((Jvm.ClassFile.Reader.u1 >>= fun i => pure (.ldc i)) : Jvm.ClassFile.Decoder Jvm.ClassFile.Instr) ⟨⟨l⟩⟩ (pc + 1) = _
  exact q_op (q_u1 h2) hy rfl
set_option maxRecDepth 100000 in
theorem dq_180 {c : ByteArray} {pc v : Nat} (h : bt_u2 180 v (drp c.data.toList pc) = true) : decode c pc = .ok (.getfield v, 3) := by
  obtain ⟨⟨l⟩⟩ := c
  obtain ⟨x, y, z, t, hd, hx, hy⟩ := bt_u2_ok h
  obtain ⟨-, -, h2⟩ := dr_get hd
  subst hy
  refine q_decN (n := 3) ?_
  unfold Jvm.ClassFile.Decoder.instr
  refine q_op (q_u1 hd) hx ?_
  show ((Jvm.ClassFile.Reader.u2 >>= fun i => pure (.getfield i)) : Jvm.ClassFile.Decoder Jvm.ClassFile.Instr) ⟨⟨l⟩⟩ (pc + 1) = _
  exact (q_bind (q_u2 h2)).trans rfl
set_option maxRecDepth 100000 in
theorem dq_181 {c : ByteArray} {pc v : Nat} (h : bt_u2 181 v (drp c.data.toList pc) = true) : decode c pc = .ok (.putfield v, 3) := by
  obtain ⟨⟨l⟩⟩ := c
  obtain ⟨x, y, z, t, hd, hx, hy⟩ := bt_u2_ok h
  obtain ⟨-, -, h2⟩ := dr_get hd
  subst hy
  refine q_decN (n := 3) ?_
  unfold Jvm.ClassFile.Decoder.instr
  refine q_op (q_u1 hd) hx ?_
  show ((Jvm.ClassFile.Reader.u2 >>= fun i => pure (.putfield i)) : Jvm.ClassFile.Decoder Jvm.ClassFile.Instr) ⟨⟨l⟩⟩ (pc + 1) = _
  exact (q_bind (q_u2 h2)).trans rfl
set_option maxRecDepth 100000 in
theorem dq_182 {c : ByteArray} {pc v : Nat} (h : bt_u2 182 v (drp c.data.toList pc) = true) : decode c pc = .ok (.invokevirtual v, 3) := by
  obtain ⟨⟨l⟩⟩ := c
  obtain ⟨x, y, z, t, hd, hx, hy⟩ := bt_u2_ok h
  obtain ⟨-, -, h2⟩ := dr_get hd
  subst hy
  refine q_decN (n := 3) ?_
  unfold Jvm.ClassFile.Decoder.instr
  refine q_op (q_u1 hd) hx ?_
  show ((Jvm.ClassFile.Reader.u2 >>= fun i => pure (.invokevirtual i)) : Jvm.ClassFile.Decoder Jvm.ClassFile.Instr) ⟨⟨l⟩⟩ (pc + 1) = _
  exact (q_bind (q_u2 h2)).trans rfl
set_option maxRecDepth 100000 in
theorem dq_183 {c : ByteArray} {pc v : Nat} (h : bt_u2 183 v (drp c.data.toList pc) = true) : decode c pc = .ok (.invokespecial v, 3) := by
  obtain ⟨⟨l⟩⟩ := c
  obtain ⟨x, y, z, t, hd, hx, hy⟩ := bt_u2_ok h
  obtain ⟨-, -, h2⟩ := dr_get hd
  subst hy
  refine q_decN (n := 3) ?_
  unfold Jvm.ClassFile.Decoder.instr
  refine q_op (q_u1 hd) hx ?_
  show ((Jvm.ClassFile.Reader.u2 >>= fun i => pure (.invokespecial i)) : Jvm.ClassFile.Decoder Jvm.ClassFile.Instr) ⟨⟨l⟩⟩ (pc + 1) = _
  exact (q_bind (q_u2 h2)).trans rfl
set_option maxRecDepth 100000 in
theorem dq_184 {c : ByteArray} {pc v : Nat} (h : bt_u2 184 v (drp c.data.toList pc) = true) : decode c pc = .ok (.invokestatic v, 3) := by
  obtain ⟨⟨l⟩⟩ := c
  obtain ⟨x, y, z, t, hd, hx, hy⟩ := bt_u2_ok h
  obtain ⟨-, -, h2⟩ := dr_get hd
  subst hy
  refine q_decN (n := 3) ?_
  unfold Jvm.ClassFile.Decoder.instr
  refine q_op (q_u1 hd) hx ?_
  show ((Jvm.ClassFile.Reader.u2 >>= fun i => pure (.invokestatic i)) : Jvm.ClassFile.Decoder Jvm.ClassFile.Instr) ⟨⟨l⟩⟩ (pc + 1) = _
  exact (q_bind (q_u2 h2)).trans rfl
set_option maxRecDepth 100000 in
theorem dq_187 {c : ByteArray} {pc v : Nat} (h : bt_u2 187 v (drp c.data.toList pc) = true) : decode c pc = .ok (.new v, 3) := by
  obtain ⟨⟨l⟩⟩ := c
  obtain ⟨x, y, z, t, hd, hx, hy⟩ := bt_u2_ok h
  obtain ⟨-, -, h2⟩ := dr_get hd
  subst hy
  refine q_decN (n := 3) ?_
  unfold Jvm.ClassFile.Decoder.instr
  refine q_op (q_u1 hd) hx ?_
  show ((Jvm.ClassFile.Reader.u2 >>= fun i => pure (.new i)) : Jvm.ClassFile.Decoder Jvm.ClassFile.Instr) ⟨⟨l⟩⟩ (pc + 1) = _
  exact (q_bind (q_u2 h2)).trans rfl
set_option maxRecDepth 100000 in
theorem dq_188_10 {c : ByteArray} {pc : Nat} (h : bt_u1 188 10 (drp c.data.toList pc) = true) : decode c pc = .ok (.newarray .int, 2) := by
  obtain ⟨⟨l⟩⟩ := c
  obtain ⟨x, y, t, hd, hx, hy⟩ := bt_u1_ok h
  obtain ⟨-, -, h2⟩ := dr_get hd
  refine q_decN (n := 2) ?_
  unfold Jvm.ClassFile.Decoder.instr
  refine q_op (q_u1 hd) hx ?_
  show (Jvm.ClassFile.Decoder.newarray pc) ⟨⟨l⟩⟩ (pc + 1) = _
  unfold Jvm.ClassFile.Decoder.newarray
  exact q_op (q_u1 h2) hy rfl
set_option maxRecDepth 100000 in
theorem dq_188_4 {c : ByteArray} {pc : Nat} (h : bt_u1 188 4 (drp c.data.toList pc) = true) : decode c pc = .ok (.newarray .boolean, 2) := by
  obtain ⟨⟨l⟩⟩ := c
  obtain ⟨x, y, t, hd, hx, hy⟩ := bt_u1_ok h
  obtain ⟨-, -, h2⟩ := dr_get hd
  refine q_decN (n := 2) ?_
  unfold Jvm.ClassFile.Decoder.instr
  refine q_op (q_u1 hd) hx ?_
  show (Jvm.ClassFile.Decoder.newarray pc) ⟨⟨l⟩⟩ (pc + 1) = _
  unfold Jvm.ClassFile.Decoder.newarray
  exact q_op (q_u1 h2) hy rfl
set_option maxRecDepth 100000 in
theorem dq_188_8 {c : ByteArray} {pc : Nat} (h : bt_u1 188 8 (drp c.data.toList pc) = true) : decode c pc = .ok (.newarray .byte, 2) := by
  obtain ⟨⟨l⟩⟩ := c
  obtain ⟨x, y, t, hd, hx, hy⟩ := bt_u1_ok h
  obtain ⟨-, -, h2⟩ := dr_get hd
  refine q_decN (n := 2) ?_
  unfold Jvm.ClassFile.Decoder.instr
  refine q_op (q_u1 hd) hx ?_
  show (Jvm.ClassFile.Decoder.newarray pc) ⟨⟨l⟩⟩ (pc + 1) = _
  unfold Jvm.ClassFile.Decoder.newarray
  exact q_op (q_u1 h2) hy rfl
set_option maxRecDepth 100000 in
theorem dq_189 {c : ByteArray} {pc v : Nat} (h : bt_u2 189 v (drp c.data.toList pc) = true) : decode c pc = .ok (.anewarray v, 3) := by
  obtain ⟨⟨l⟩⟩ := c
  obtain ⟨x, y, z, t, hd, hx, hy⟩ := bt_u2_ok h
  obtain ⟨-, -, h2⟩ := dr_get hd
  subst hy
  refine q_decN (n := 3) ?_
  unfold Jvm.ClassFile.Decoder.instr
  refine q_op (q_u1 hd) hx ?_
  show ((Jvm.ClassFile.Reader.u2 >>= fun i => pure (.anewarray i)) : Jvm.ClassFile.Decoder Jvm.ClassFile.Instr) ⟨⟨l⟩⟩ (pc + 1) = _
  exact (q_bind (q_u2 h2)).trans rfl
set_option maxRecDepth 100000 in
theorem dq_19 {c : ByteArray} {pc v : Nat} (h : bt_u2 19 v (drp c.data.toList pc) = true) : decode c pc = .ok (.ldc_w v, 3) := by
  obtain ⟨⟨l⟩⟩ := c
  obtain ⟨x, y, z, t, hd, hx, hy⟩ := bt_u2_ok h
  obtain ⟨-, -, h2⟩ := dr_get hd
  subst hy
  refine q_decN (n := 3) ?_
  unfold Jvm.ClassFile.Decoder.instr
  refine q_op (q_u1 hd) hx ?_
  show ((Jvm.ClassFile.Reader.u2 >>= fun i => pure (.ldc_w i)) : Jvm.ClassFile.Decoder Jvm.ClassFile.Instr) ⟨⟨l⟩⟩ (pc + 1) = _
  exact (q_bind (q_u2 h2)).trans rfl
set_option maxRecDepth 100000 in
theorem dq_190 {c : ByteArray} {pc : Nat} (h : bt_n 190 (drp c.data.toList pc) = true) : decode c pc = .ok (.arraylength, 1) := by
  obtain ⟨⟨l⟩⟩ := c
  obtain ⟨x, t, hd, hx⟩ := bt_n_ok h
  refine q_decN (n := 1) ?_
  unfold Jvm.ClassFile.Decoder.instr
  exact q_op (q_u1 hd) hx rfl
set_option maxRecDepth 100000 in
theorem dq_191 {c : ByteArray} {pc : Nat} (h : bt_n 191 (drp c.data.toList pc) = true) : decode c pc = .ok (.athrow, 1) := by
  obtain ⟨⟨l⟩⟩ := c
  obtain ⟨x, t, hd, hx⟩ := bt_n_ok h
  refine q_decN (n := 1) ?_
  unfold Jvm.ClassFile.Decoder.instr
  exact q_op (q_u1 hd) hx rfl
set_option maxRecDepth 100000 in
theorem dq_198 {c : ByteArray} {pc : Nat} {v : Int} (h : bt_s2 198 v (drp c.data.toList pc) = true) : decode c pc = .ok (.ifnull v, 3) := by
  obtain ⟨⟨l⟩⟩ := c
  obtain ⟨x, y, z, t, hd, hx, hy⟩ := bt_s2_ok h
  obtain ⟨-, -, h2⟩ := dr_get hd
  subst hy
  refine q_decN (n := 3) ?_
  unfold Jvm.ClassFile.Decoder.instr
  refine q_op (q_u1 hd) hx ?_
  show ((Jvm.ClassFile.Reader.s2 >>= fun i => pure (.ifnull i)) : Jvm.ClassFile.Decoder Jvm.ClassFile.Instr) ⟨⟨l⟩⟩ (pc + 1) = _
  exact (q_bind (q_s2 h2)).trans rfl
set_option maxRecDepth 100000 in
theorem dq_199 {c : ByteArray} {pc : Nat} {v : Int} (h : bt_s2 199 v (drp c.data.toList pc) = true) : decode c pc = .ok (.ifnonnull v, 3) := by
  obtain ⟨⟨l⟩⟩ := c
  obtain ⟨x, y, z, t, hd, hx, hy⟩ := bt_s2_ok h
  obtain ⟨-, -, h2⟩ := dr_get hd
  subst hy
  refine q_decN (n := 3) ?_
  unfold Jvm.ClassFile.Decoder.instr
  refine q_op (q_u1 hd) hx ?_
  show ((Jvm.ClassFile.Reader.s2 >>= fun i => pure (.ifnonnull i)) : Jvm.ClassFile.Decoder Jvm.ClassFile.Instr) ⟨⟨l⟩⟩ (pc + 1) = _
  exact (q_bind (q_s2 h2)).trans rfl
set_option maxRecDepth 100000 in
theorem dq_2 {c : ByteArray} {pc : Nat} (h : bt_n 2 (drp c.data.toList pc) = true) : decode c pc = .ok (.iconst (-1), 1) := by
  obtain ⟨⟨l⟩⟩ := c
  obtain ⟨x, t, hd, hx⟩ := bt_n_ok h
  refine q_decN (n := 1) ?_
  unfold Jvm.ClassFile.Decoder.instr
  exact q_op (q_u1 hd) hx rfl
set_option maxRecDepth 100000 in
theorem dq_20 {c : ByteArray} {pc v : Nat} (h : bt_u2 20 v (drp c.data.toList pc) = true) : decode c pc = .ok (.ldc2_w v, 3) := by
  obtain ⟨⟨l⟩⟩ := c
  obtain ⟨x, y, z, t, hd, hx, hy⟩ := bt_u2_ok h
  obtain ⟨-, -, h2⟩ := dr_get hd
  subst hy
  refine q_decN (n := 3) ?_
  unfold Jvm.ClassFile.Decoder.instr
  refine q_op (q_u1 hd) hx ?_
  show ((Jvm.ClassFile.Reader.u2 >>= fun i => pure (.ldc2_w i)) : Jvm.ClassFile.Decoder Jvm.ClassFile.Instr) ⟨⟨l⟩⟩ (pc + 1) = _
  exact (q_bind (q_u2 h2)).trans rfl
set_option maxRecDepth 100000 in
theorem dq_21 {c : ByteArray} {pc v : Nat} (h : bt_u1 21 v (drp c.data.toList pc) = true) : decode c pc = .ok (.iload v, 2) := by
  obtain ⟨⟨l⟩⟩ := c
  obtain ⟨x, y, t, hd, hx, hy⟩ := bt_u1_ok h
  obtain ⟨-, -, h2⟩ := dr_get hd
  refine q_decN (n := 2) ?_
  unfold Jvm.ClassFile.Decoder.instr
  refine q_op (q_u1 hd) hx ?_
  show ((Jvm.ClassFile.Reader.u1 >>= fun i => pure (.iload i)) : Jvm.ClassFile.Decoder Jvm.ClassFile.Instr) ⟨⟨l⟩⟩ (pc + 1) = _
  exact q_op (q_u1 h2) hy rfl
set_option maxRecDepth 100000 in
theorem dq_22 {c : ByteArray} {pc v : Nat} (h : bt_u1 22 v (drp c.data.toList pc) = true) : decode c pc = .ok (.lload v, 2) := by
  obtain ⟨⟨l⟩⟩ := c
  obtain ⟨x, y, t, hd, hx, hy⟩ := bt_u1_ok h
  obtain ⟨-, -, h2⟩ := dr_get hd
  refine q_decN (n := 2) ?_
  unfold Jvm.ClassFile.Decoder.instr
  refine q_op (q_u1 hd) hx ?_
  show ((Jvm.ClassFile.Reader.u1 >>= fun i => pure (.lload i)) : Jvm.ClassFile.Decoder Jvm.ClassFile.Instr) ⟨⟨l⟩⟩ (pc + 1) = _
  exact q_op (q_u1 h2) hy rfl
set_option maxRecDepth 100000 in
theorem dq_25 {c : ByteArray} {pc v : Nat} (h : bt_u1 25 v (drp c.data.toList pc) = true) : decode c pc = .ok (.aload v, 2) := by
  obtain ⟨⟨l⟩⟩ := c
  obtain ⟨x, y, t, hd, hx, hy⟩ := bt_u1_ok h
  obtain ⟨-, -, h2⟩ := dr_get hd
  refine q_decN (n := 2) ?_
  unfold Jvm.ClassFile.Decoder.instr
  refine q_op (q_u1 hd) hx ?_
  show ((Jvm.ClassFile.Reader.u1 >>= fun i => pure (.aload i)) : Jvm.ClassFile.Decoder Jvm.ClassFile.Instr) ⟨⟨l⟩⟩ (pc + 1) = _
  exact q_op (q_u1 h2) hy rfl
set_option maxRecDepth 100000 in
theorem dq_26 {c : ByteArray} {pc : Nat} (h : bt_n 26 (drp c.data.toList pc) = true) : decode c pc = .ok (.iload_n 0, 1) := by
  obtain ⟨⟨l⟩⟩ := c
  obtain ⟨x, t, hd, hx⟩ := bt_n_ok h
  refine q_decN (n := 1) ?_
  unfold Jvm.ClassFile.Decoder.instr
  exact q_op (q_u1 hd) hx rfl
set_option maxRecDepth 100000 in
theorem dq_27 {c : ByteArray} {pc : Nat} (h : bt_n 27 (drp c.data.toList pc) = true) : decode c pc = .ok (.iload_n 1, 1) := by
  obtain ⟨⟨l⟩⟩ := c
  obtain ⟨x, t, hd, hx⟩ := bt_n_ok h
  refine q_decN (n := 1) ?_
  unfold Jvm.ClassFile.Decoder.instr
  exact q_op (q_u1 hd) hx rfl
set_option maxRecDepth 100000 in
theorem dq_28 {c : ByteArray} {pc : Nat} (h : bt_n 28 (drp c.data.toList pc) = true) : decode c pc = .ok (.iload_n 2, 1) := by
  obtain ⟨⟨l⟩⟩ := c
  obtain ⟨x, t, hd, hx⟩ := bt_n_ok h
  refine q_decN (n := 1) ?_
  unfold Jvm.ClassFile.Decoder.instr
  exact q_op (q_u1 hd) hx rfl
set_option maxRecDepth 100000 in
theorem dq_29 {c : ByteArray} {pc : Nat} (h : bt_n 29 (drp c.data.toList pc) = true) : decode c pc = .ok (.iload_n 3, 1) := by
  obtain ⟨⟨l⟩⟩ := c
  obtain ⟨x, t, hd, hx⟩ := bt_n_ok h
  refine q_decN (n := 1) ?_
  unfold Jvm.ClassFile.Decoder.instr
  exact q_op (q_u1 hd) hx rfl
set_option maxRecDepth 100000 in
theorem dq_3 {c : ByteArray} {pc : Nat} (h : bt_n 3 (drp c.data.toList pc) = true) : decode c pc = .ok (.iconst 0, 1) := by
  obtain ⟨⟨l⟩⟩ := c
  obtain ⟨x, t, hd, hx⟩ := bt_n_ok h
  refine q_decN (n := 1) ?_
  unfold Jvm.ClassFile.Decoder.instr
  exact q_op (q_u1 hd) hx rfl
set_option maxRecDepth 100000 in
theorem dq_30 {c : ByteArray} {pc : Nat} (h : bt_n 30 (drp c.data.toList pc) = true) : decode c pc = .ok (.lload_n 0, 1) := by
  obtain ⟨⟨l⟩⟩ := c
  obtain ⟨x, t, hd, hx⟩ := bt_n_ok h
  refine q_decN (n := 1) ?_
  unfold Jvm.ClassFile.Decoder.instr
  exact q_op (q_u1 hd) hx rfl
set_option maxRecDepth 100000 in
theorem dq_31 {c : ByteArray} {pc : Nat} (h : bt_n 31 (drp c.data.toList pc) = true) : decode c pc = .ok (.lload_n 1, 1) := by
  obtain ⟨⟨l⟩⟩ := c
  obtain ⟨x, t, hd, hx⟩ := bt_n_ok h
  refine q_decN (n := 1) ?_
  unfold Jvm.ClassFile.Decoder.instr
  exact q_op (q_u1 hd) hx rfl
set_option maxRecDepth 100000 in
theorem dq_32 {c : ByteArray} {pc : Nat} (h : bt_n 32 (drp c.data.toList pc) = true) : decode c pc = .ok (.lload_n 2, 1) := by
  obtain ⟨⟨l⟩⟩ := c
  obtain ⟨x, t, hd, hx⟩ := bt_n_ok h
  refine q_decN (n := 1) ?_
  unfold Jvm.ClassFile.Decoder.instr
  exact q_op (q_u1 hd) hx rfl
set_option maxRecDepth 100000 in
theorem dq_33 {c : ByteArray} {pc : Nat} (h : bt_n 33 (drp c.data.toList pc) = true) : decode c pc = .ok (.lload_n 3, 1) := by
  obtain ⟨⟨l⟩⟩ := c
  obtain ⟨x, t, hd, hx⟩ := bt_n_ok h
  refine q_decN (n := 1) ?_
  unfold Jvm.ClassFile.Decoder.instr
  exact q_op (q_u1 hd) hx rfl
set_option maxRecDepth 100000 in
theorem dq_4 {c : ByteArray} {pc : Nat} (h : bt_n 4 (drp c.data.toList pc) = true) : decode c pc = .ok (.iconst 1, 1) := by
  obtain ⟨⟨l⟩⟩ := c
  obtain ⟨x, t, hd, hx⟩ := bt_n_ok h
  refine q_decN (n := 1) ?_
  unfold Jvm.ClassFile.Decoder.instr
  exact q_op (q_u1 hd) hx rfl
set_option maxRecDepth 100000 in
theorem dq_42 {c : ByteArray} {pc : Nat} (h : bt_n 42 (drp c.data.toList pc) = true) : decode c pc = .ok (.aload_n 0, 1) := by
  obtain ⟨⟨l⟩⟩ := c
  obtain ⟨x, t, hd, hx⟩ := bt_n_ok h
  refine q_decN (n := 1) ?_
  unfold Jvm.ClassFile.Decoder.instr
  exact q_op (q_u1 hd) hx rfl
set_option maxRecDepth 100000 in
theorem dq_43 {c : ByteArray} {pc : Nat} (h : bt_n 43 (drp c.data.toList pc) = true) : decode c pc = .ok (.aload_n 1, 1) := by
  obtain ⟨⟨l⟩⟩ := c
  obtain ⟨x, t, hd, hx⟩ := bt_n_ok h
  refine q_decN (n := 1) ?_
  unfold Jvm.ClassFile.Decoder.instr
  exact q_op (q_u1 hd) hx rfl
set_option maxRecDepth 100000 in
theorem dq_44 {c : ByteArray} {pc : Nat} (h : bt_n 44 (drp c.data.toList pc) = true) : decode c pc = .ok (.aload_n 2, 1) := by
  obtain ⟨⟨l⟩⟩ := c
  obtain ⟨x, t, hd, hx⟩ := bt_n_ok h
  refine q_decN (n := 1) ?_
  unfold Jvm.ClassFile.Decoder.instr
  exact q_op (q_u1 hd) hx rfl
set_option maxRecDepth 100000 in
theorem dq_45 {c : ByteArray} {pc : Nat} (h : bt_n 45 (drp c.data.toList pc) = true) : decode c pc = .ok (.aload_n 3, 1) := by
  obtain ⟨⟨l⟩⟩ := c
  obtain ⟨x, t, hd, hx⟩ := bt_n_ok h
  refine q_decN (n := 1) ?_
  unfold Jvm.ClassFile.Decoder.instr
  exact q_op (q_u1 hd) hx rfl
set_option maxRecDepth 100000 in
theorem dq_46 {c : ByteArray} {pc : Nat} (h : bt_n 46 (drp c.data.toList pc) = true) : decode c pc = .ok (.iaload, 1) := by
  obtain ⟨⟨l⟩⟩ := c
  obtain ⟨x, t, hd, hx⟩ := bt_n_ok h
  refine q_decN (n := 1) ?_
  unfold Jvm.ClassFile.Decoder.instr
  exact q_op (q_u1 hd) hx rfl
set_option maxRecDepth 100000 in
theorem dq_5 {c : ByteArray} {pc : Nat} (h : bt_n 5 (drp c.data.toList pc) = true) : decode c pc = .ok (.iconst 2, 1) := by
  obtain ⟨⟨l⟩⟩ := c
  obtain ⟨x, t, hd, hx⟩ := bt_n_ok h
  refine q_decN (n := 1) ?_
  unfold Jvm.ClassFile.Decoder.instr
  exact q_op (q_u1 hd) hx rfl
set_option maxRecDepth 100000 in
theorem dq_50 {c : ByteArray} {pc : Nat} (h : bt_n 50 (drp c.data.toList pc) = true) : decode c pc = .ok (.aaload, 1) := by
  obtain ⟨⟨l⟩⟩ := c
  obtain ⟨x, t, hd, hx⟩ := bt_n_ok h
  refine q_decN (n := 1) ?_
  unfold Jvm.ClassFile.Decoder.instr
  exact q_op (q_u1 hd) hx rfl
set_option maxRecDepth 100000 in
theorem dq_51 {c : ByteArray} {pc : Nat} (h : bt_n 51 (drp c.data.toList pc) = true) : decode c pc = .ok (.baload, 1) := by
  obtain ⟨⟨l⟩⟩ := c
  obtain ⟨x, t, hd, hx⟩ := bt_n_ok h
  refine q_decN (n := 1) ?_
  unfold Jvm.ClassFile.Decoder.instr
  exact q_op (q_u1 hd) hx rfl
set_option maxRecDepth 100000 in
theorem dq_54 {c : ByteArray} {pc v : Nat} (h : bt_u1 54 v (drp c.data.toList pc) = true) : decode c pc = .ok (.istore v, 2) := by
  obtain ⟨⟨l⟩⟩ := c
  obtain ⟨x, y, t, hd, hx, hy⟩ := bt_u1_ok h
  obtain ⟨-, -, h2⟩ := dr_get hd
  refine q_decN (n := 2) ?_
  unfold Jvm.ClassFile.Decoder.instr
  refine q_op (q_u1 hd) hx ?_
  show ((Jvm.ClassFile.Reader.u1 >>= fun i => pure (.istore i)) : Jvm.ClassFile.Decoder Jvm.ClassFile.Instr) ⟨⟨l⟩⟩ (pc + 1) = _
  exact q_op (q_u1 h2) hy rfl
set_option maxRecDepth 100000 in
theorem dq_55 {c : ByteArray} {pc v : Nat} (h : bt_u1 55 v (drp c.data.toList pc) = true) : decode c pc = .ok (.lstore v, 2) := by
  obtain ⟨⟨l⟩⟩ := c
  obtain ⟨x, y, t, hd, hx, hy⟩ := bt_u1_ok h
  obtain ⟨-, -, h2⟩ := dr_get hd
  refine q_decN (n := 2) ?_
  unfold Jvm.ClassFile.Decoder.instr
  refine q_op (q_u1 hd) hx ?_
  show ((Jvm.ClassFile.Reader.u1 >>= fun i => pure (.lstore i)) : Jvm.ClassFile.Decoder Jvm.ClassFile.Instr) ⟨⟨l⟩⟩ (pc + 1) = _
  exact q_op (q_u1 h2) hy rfl
set_option maxRecDepth 100000 in
theorem dq_58 {c : ByteArray} {pc v : Nat} (h : bt_u1 58 v (drp c.data.toList pc) = true) : decode c pc = .ok (.astore v, 2) := by
  obtain ⟨⟨l⟩⟩ := c
  obtain ⟨x, y, t, hd, hx, hy⟩ := bt_u1_ok h
  obtain ⟨-, -, h2⟩ := dr_get hd
  refine q_decN (n := 2) ?_
  unfold Jvm.ClassFile.Decoder.instr
  refine q_op (q_u1 hd) hx ?_
  show ((Jvm.ClassFile.Reader.u1 >>= fun i => pure (.astore i)) : Jvm.ClassFile.Decoder Jvm.ClassFile.Instr) ⟨⟨l⟩⟩ (pc + 1) = _
  exact q_op (q_u1 h2) hy rfl
set_option maxRecDepth 100000 in
theorem dq_6 {c : ByteArray} {pc : Nat} (h : bt_n 6 (drp c.data.toList pc) = true) : decode c pc = .ok (.iconst 3, 1) := by
  obtain ⟨⟨l⟩⟩ := c
  obtain ⟨x, t, hd, hx⟩ := bt_n_ok h
  refine q_decN (n := 1) ?_
  unfold Jvm.ClassFile.Decoder.instr
  exact q_op (q_u1 hd) hx rfl
set_option maxRecDepth 100000 in
theorem dq_60 {c : ByteArray} {pc : Nat} (h : bt_n 60 (drp c.data.toList pc) = true) : decode c pc = .ok (.istore_n 1, 1) := by
  obtain ⟨⟨l⟩⟩ := c
  obtain ⟨x, t, hd, hx⟩ := bt_n_ok h
  refine q_decN (n := 1) ?_
  unfold Jvm.ClassFile.Decoder.instr
  exact q_op (q_u1 hd) hx rfl
set_option maxRecDepth 100000 in
theorem dq_61 {c : ByteArray} {pc : Nat} (h : bt_n 61 (drp c.data.toList pc) = true) : decode c pc = .ok (.istore_n 2, 1) := by
  obtain ⟨⟨l⟩⟩ := c
  obtain ⟨x, t, hd, hx⟩ := bt_n_ok h
  refine q_decN (n := 1) ?_
  unfold Jvm.ClassFile.Decoder.instr
  exact q_op (q_u1 hd) hx rfl
set_option maxRecDepth 100000 in
theorem dq_62 {c : ByteArray} {pc : Nat} (h : bt_n 62 (drp c.data.toList pc) = true) : decode c pc = .ok (.istore_n 3, 1) := by
  obtain ⟨⟨l⟩⟩ := c
  obtain ⟨x, t, hd, hx⟩ := bt_n_ok h
  refine q_decN (n := 1) ?_
  unfold Jvm.ClassFile.Decoder.instr
  exact q_op (q_u1 hd) hx rfl
set_option maxRecDepth 100000 in
theorem dq_64 {c : ByteArray} {pc : Nat} (h : bt_n 64 (drp c.data.toList pc) = true) : decode c pc = .ok (.lstore_n 1, 1) := by
  obtain ⟨⟨l⟩⟩ := c
  obtain ⟨x, t, hd, hx⟩ := bt_n_ok h
  refine q_decN (n := 1) ?_
  unfold Jvm.ClassFile.Decoder.instr
  exact q_op (q_u1 hd) hx rfl
set_option maxRecDepth 100000 in
theorem dq_66 {c : ByteArray} {pc : Nat} (h : bt_n 66 (drp c.data.toList pc) = true) : decode c pc = .ok (.lstore_n 3, 1) := by
  obtain ⟨⟨l⟩⟩ := c
  obtain ⟨x, t, hd, hx⟩ := bt_n_ok h
  refine q_decN (n := 1) ?_
  unfold Jvm.ClassFile.Decoder.instr
  exact q_op (q_u1 hd) hx rfl
set_option maxRecDepth 100000 in
theorem dq_7 {c : ByteArray} {pc : Nat} (h : bt_n 7 (drp c.data.toList pc) = true) : decode c pc = .ok (.iconst 4, 1) := by
  obtain ⟨⟨l⟩⟩ := c
  obtain ⟨x, t, hd, hx⟩ := bt_n_ok h
  refine q_decN (n := 1) ?_
  unfold Jvm.ClassFile.Decoder.instr
  exact q_op (q_u1 hd) hx rfl
set_option maxRecDepth 100000 in
theorem dq_76 {c : ByteArray} {pc : Nat} (h : bt_n 76 (drp c.data.toList pc) = true) : decode c pc = .ok (.astore_n 1, 1) := by
  obtain ⟨⟨l⟩⟩ := c
  obtain ⟨x, t, hd, hx⟩ := bt_n_ok h
  refine q_decN (n := 1) ?_
  unfold Jvm.ClassFile.Decoder.instr
  exact q_op (q_u1 hd) hx rfl
set_option maxRecDepth 100000 in
theorem dq_77 {c : ByteArray} {pc : Nat} (h : bt_n 77 (drp c.data.toList pc) = true) : decode c pc = .ok (.astore_n 2, 1) := by
  obtain ⟨⟨l⟩⟩ := c
  obtain ⟨x, t, hd, hx⟩ := bt_n_ok h
  refine q_decN (n := 1) ?_
  unfold Jvm.ClassFile.Decoder.instr
  exact q_op (q_u1 hd) hx rfl
set_option maxRecDepth 100000 in
theorem dq_78 {c : ByteArray} {pc : Nat} (h : bt_n 78 (drp c.data.toList pc) = true) : decode c pc = .ok (.astore_n 3, 1) := by
  obtain ⟨⟨l⟩⟩ := c
  obtain ⟨x, t, hd, hx⟩ := bt_n_ok h
  refine q_decN (n := 1) ?_
  unfold Jvm.ClassFile.Decoder.instr
  exact q_op (q_u1 hd) hx rfl
set_option maxRecDepth 100000 in
theorem dq_79 {c : ByteArray} {pc : Nat} (h : bt_n 79 (drp c.data.toList pc) = true) : decode c pc = .ok (.iastore, 1) := by
  obtain ⟨⟨l⟩⟩ := c
  obtain ⟨x, t, hd, hx⟩ := bt_n_ok h
  refine q_decN (n := 1) ?_
  unfold Jvm.ClassFile.Decoder.instr
  exact q_op (q_u1 hd) hx rfl
set_option maxRecDepth 100000 in
theorem dq_8 {c : ByteArray} {pc : Nat} (h : bt_n 8 (drp c.data.toList pc) = true) : decode c pc = .ok (.iconst 5, 1) := by
  obtain ⟨⟨l⟩⟩ := c
  obtain ⟨x, t, hd, hx⟩ := bt_n_ok h
  refine q_decN (n := 1) ?_
  unfold Jvm.ClassFile.Decoder.instr
  exact q_op (q_u1 hd) hx rfl
set_option maxRecDepth 100000 in
theorem dq_83 {c : ByteArray} {pc : Nat} (h : bt_n 83 (drp c.data.toList pc) = true) : decode c pc = .ok (.aastore, 1) := by
  obtain ⟨⟨l⟩⟩ := c
  obtain ⟨x, t, hd, hx⟩ := bt_n_ok h
  refine q_decN (n := 1) ?_
  unfold Jvm.ClassFile.Decoder.instr
  exact q_op (q_u1 hd) hx rfl
set_option maxRecDepth 100000 in
theorem dq_84 {c : ByteArray} {pc : Nat} (h : bt_n 84 (drp c.data.toList pc) = true) : decode c pc = .ok (.bastore, 1) := by
  obtain ⟨⟨l⟩⟩ := c
  obtain ⟨x, t, hd, hx⟩ := bt_n_ok h
  refine q_decN (n := 1) ?_
  unfold Jvm.ClassFile.Decoder.instr
  exact q_op (q_u1 hd) hx rfl
set_option maxRecDepth 100000 in
theorem dq_87 {c : ByteArray} {pc : Nat} (h : bt_n 87 (drp c.data.toList pc) = true) : decode c pc = .ok (.pop, 1) := by
  obtain ⟨⟨l⟩⟩ := c
  obtain ⟨x, t, hd, hx⟩ := bt_n_ok h
  refine q_decN (n := 1) ?_
  unfold Jvm.ClassFile.Decoder.instr
  exact q_op (q_u1 hd) hx rfl
set_option maxRecDepth 100000 in
theorem dq_89 {c : ByteArray} {pc : Nat} (h : bt_n 89 (drp c.data.toList pc) = true) : decode c pc = .ok (.dup, 1) := by
  obtain ⟨⟨l⟩⟩ := c
  obtain ⟨x, t, hd, hx⟩ := bt_n_ok h
  refine q_decN (n := 1) ?_
  unfold Jvm.ClassFile.Decoder.instr
  exact q_op (q_u1 hd) hx rfl
set_option maxRecDepth 100000 in
theorem dq_9 {c : ByteArray} {pc : Nat} (h : bt_n 9 (drp c.data.toList pc) = true) : decode c pc = .ok (.lconst 0, 1) := by
  obtain ⟨⟨l⟩⟩ := c
  obtain ⟨x, t, hd, hx⟩ := bt_n_ok h
  refine q_decN (n := 1) ?_
  unfold Jvm.ClassFile.Decoder.instr
  exact q_op (q_u1 hd) hx rfl
set_option maxRecDepth 100000 in
theorem dq_92 {c : ByteArray} {pc : Nat} (h : bt_n 92 (drp c.data.toList pc) = true) : decode c pc = .ok (.dup2, 1) := by
  obtain ⟨⟨l⟩⟩ := c
  obtain ⟨x, t, hd, hx⟩ := bt_n_ok h
  refine q_decN (n := 1) ?_
  unfold Jvm.ClassFile.Decoder.instr
  exact q_op (q_u1 hd) hx rfl
set_option maxRecDepth 100000 in
theorem dq_96 {c : ByteArray} {pc : Nat} (h : bt_n 96 (drp c.data.toList pc) = true) : decode c pc = .ok (.iadd, 1) := by
  obtain ⟨⟨l⟩⟩ := c
  obtain ⟨x, t, hd, hx⟩ := bt_n_ok h
  refine q_decN (n := 1) ?_
  unfold Jvm.ClassFile.Decoder.instr
  exact q_op (q_u1 hd) hx rfl
set_option maxRecDepth 100000 in
theorem dq_97 {c : ByteArray} {pc : Nat} (h : bt_n 97 (drp c.data.toList pc) = true) : decode c pc = .ok (.ladd, 1) := by
  obtain ⟨⟨l⟩⟩ := c
  obtain ⟨x, t, hd, hx⟩ := bt_n_ok h
  refine q_decN (n := 1) ?_
  unfold Jvm.ClassFile.Decoder.instr
  exact q_op (q_u1 hd) hx rfl
end
section
theorem t_m2000000000 : ((-2000000000) : Int32).toInt = -2000000000 := by decide
theorem t_m2000000 : ((-2000000) : Int32).toInt = -2000000 := by decide
theorem t_m100000 : ((-100000) : Int32).toInt = -100000 := by decide
theorem t_m10000 : ((-10000) : Int32).toInt = -10000 := by decide
theorem t_m1000 : ((-1000) : Int32).toInt = -1000 := by decide
theorem t_m999 : ((-999) : Int32).toInt = -999 := by decide
theorem t_m100 : ((-100) : Int32).toInt = -100 := by decide
theorem t_m50 : ((-50) : Int32).toInt = -50 := by decide
theorem t_m10 : ((-10) : Int32).toInt = -10 := by decide
theorem t_m9 : ((-9) : Int32).toInt = -9 := by decide
theorem t_m8 : ((-8) : Int32).toInt = -8 := by decide
theorem t_m7 : ((-7) : Int32).toInt = -7 := by decide
theorem t_m6 : ((-6) : Int32).toInt = -6 := by decide
theorem t_m5 : ((-5) : Int32).toInt = -5 := by decide
theorem t_m4 : ((-4) : Int32).toInt = -4 := by decide
theorem t_m3 : ((-3) : Int32).toInt = -3 := by decide
theorem t_m2 : ((-2) : Int32).toInt = -2 := by decide
theorem t_m1 : ((-1) : Int32).toInt = -1 := by decide
theorem t_0 : (0 : Int32).toInt = 0 := by decide
theorem t_1 : (1 : Int32).toInt = 1 := by decide
theorem t_2 : (2 : Int32).toInt = 2 := by decide
theorem t_3 : (3 : Int32).toInt = 3 := by decide
theorem t_4 : (4 : Int32).toInt = 4 := by decide
theorem t_5 : (5 : Int32).toInt = 5 := by decide
theorem t_6 : (6 : Int32).toInt = 6 := by decide
theorem t_7 : (7 : Int32).toInt = 7 := by decide
theorem t_8 : (8 : Int32).toInt = 8 := by decide
theorem t_9 : (9 : Int32).toInt = 9 := by decide
theorem t_10 : (10 : Int32).toInt = 10 := by decide
theorem t_11 : (11 : Int32).toInt = 11 := by decide
theorem t_12 : (12 : Int32).toInt = 12 := by decide
theorem t_13 : (13 : Int32).toInt = 13 := by decide
theorem t_14 : (14 : Int32).toInt = 14 := by decide
theorem t_15 : (15 : Int32).toInt = 15 := by decide
theorem t_16 : (16 : Int32).toInt = 16 := by decide
theorem t_17 : (17 : Int32).toInt = 17 := by decide
theorem t_18 : (18 : Int32).toInt = 18 := by decide
theorem t_19 : (19 : Int32).toInt = 19 := by decide
theorem t_20 : (20 : Int32).toInt = 20 := by decide
theorem t_21 : (21 : Int32).toInt = 21 := by decide
theorem t_22 : (22 : Int32).toInt = 22 := by decide
theorem t_23 : (23 : Int32).toInt = 23 := by decide
theorem t_24 : (24 : Int32).toInt = 24 := by decide
theorem t_25 : (25 : Int32).toInt = 25 := by decide
theorem t_26 : (26 : Int32).toInt = 26 := by decide
theorem t_27 : (27 : Int32).toInt = 27 := by decide
theorem t_28 : (28 : Int32).toInt = 28 := by decide
theorem t_29 : (29 : Int32).toInt = 29 := by decide
theorem t_30 : (30 : Int32).toInt = 30 := by decide
theorem t_31 : (31 : Int32).toInt = 31 := by decide
theorem t_32 : (32 : Int32).toInt = 32 := by decide
theorem t_33 : (33 : Int32).toInt = 33 := by decide
theorem t_34 : (34 : Int32).toInt = 34 := by decide
theorem t_35 : (35 : Int32).toInt = 35 := by decide
theorem t_36 : (36 : Int32).toInt = 36 := by decide
theorem t_37 : (37 : Int32).toInt = 37 := by decide
theorem t_38 : (38 : Int32).toInt = 38 := by decide
theorem t_39 : (39 : Int32).toInt = 39 := by decide
theorem t_40 : (40 : Int32).toInt = 40 := by decide
theorem t_41 : (41 : Int32).toInt = 41 := by decide
theorem t_42 : (42 : Int32).toInt = 42 := by decide
theorem t_43 : (43 : Int32).toInt = 43 := by decide
theorem t_44 : (44 : Int32).toInt = 44 := by decide
theorem t_45 : (45 : Int32).toInt = 45 := by decide
theorem t_46 : (46 : Int32).toInt = 46 := by decide
theorem t_47 : (47 : Int32).toInt = 47 := by decide
theorem t_48 : (48 : Int32).toInt = 48 := by decide
theorem t_49 : (49 : Int32).toInt = 49 := by decide
theorem t_50 : (50 : Int32).toInt = 50 := by decide
theorem t_51 : (51 : Int32).toInt = 51 := by decide
theorem t_52 : (52 : Int32).toInt = 52 := by decide
theorem t_53 : (53 : Int32).toInt = 53 := by decide
theorem t_54 : (54 : Int32).toInt = 54 := by decide
theorem t_55 : (55 : Int32).toInt = 55 := by decide
theorem t_56 : (56 : Int32).toInt = 56 := by decide
theorem t_57 : (57 : Int32).toInt = 57 := by decide
theorem t_58 : (58 : Int32).toInt = 58 := by decide
theorem t_59 : (59 : Int32).toInt = 59 := by decide
theorem t_60 : (60 : Int32).toInt = 60 := by decide
theorem t_61 : (61 : Int32).toInt = 61 := by decide
theorem t_62 : (62 : Int32).toInt = 62 := by decide
theorem t_63 : (63 : Int32).toInt = 63 := by decide
theorem t_64 : (64 : Int32).toInt = 64 := by decide
theorem t_65 : (65 : Int32).toInt = 65 := by decide
theorem t_66 : (66 : Int32).toInt = 66 := by decide
theorem t_67 : (67 : Int32).toInt = 67 := by decide
theorem t_68 : (68 : Int32).toInt = 68 := by decide
theorem t_69 : (69 : Int32).toInt = 69 := by decide
theorem t_70 : (70 : Int32).toInt = 70 := by decide
theorem t_71 : (71 : Int32).toInt = 71 := by decide
theorem t_72 : (72 : Int32).toInt = 72 := by decide
theorem t_73 : (73 : Int32).toInt = 73 := by decide
theorem t_74 : (74 : Int32).toInt = 74 := by decide
theorem t_75 : (75 : Int32).toInt = 75 := by decide
theorem t_76 : (76 : Int32).toInt = 76 := by decide
theorem t_77 : (77 : Int32).toInt = 77 := by decide
theorem t_78 : (78 : Int32).toInt = 78 := by decide
theorem t_79 : (79 : Int32).toInt = 79 := by decide
theorem t_80 : (80 : Int32).toInt = 80 := by decide
theorem t_81 : (81 : Int32).toInt = 81 := by decide
theorem t_82 : (82 : Int32).toInt = 82 := by decide
theorem t_83 : (83 : Int32).toInt = 83 := by decide
theorem t_84 : (84 : Int32).toInt = 84 := by decide
theorem t_85 : (85 : Int32).toInt = 85 := by decide
theorem t_86 : (86 : Int32).toInt = 86 := by decide
theorem t_87 : (87 : Int32).toInt = 87 := by decide
theorem t_88 : (88 : Int32).toInt = 88 := by decide
theorem t_89 : (89 : Int32).toInt = 89 := by decide
theorem t_90 : (90 : Int32).toInt = 90 := by decide
theorem t_91 : (91 : Int32).toInt = 91 := by decide
theorem t_92 : (92 : Int32).toInt = 92 := by decide
theorem t_93 : (93 : Int32).toInt = 93 := by decide
theorem t_94 : (94 : Int32).toInt = 94 := by decide
theorem t_95 : (95 : Int32).toInt = 95 := by decide
theorem t_96 : (96 : Int32).toInt = 96 := by decide
theorem t_97 : (97 : Int32).toInt = 97 := by decide
theorem t_98 : (98 : Int32).toInt = 98 := by decide
theorem t_99 : (99 : Int32).toInt = 99 := by decide
theorem t_100 : (100 : Int32).toInt = 100 := by decide
theorem t_101 : (101 : Int32).toInt = 101 := by decide
theorem t_102 : (102 : Int32).toInt = 102 := by decide
theorem t_103 : (103 : Int32).toInt = 103 := by decide
theorem t_104 : (104 : Int32).toInt = 104 := by decide
theorem t_105 : (105 : Int32).toInt = 105 := by decide
theorem t_106 : (106 : Int32).toInt = 106 := by decide
theorem t_107 : (107 : Int32).toInt = 107 := by decide
theorem t_108 : (108 : Int32).toInt = 108 := by decide
theorem t_109 : (109 : Int32).toInt = 109 := by decide
theorem t_110 : (110 : Int32).toInt = 110 := by decide
theorem t_111 : (111 : Int32).toInt = 111 := by decide
theorem t_112 : (112 : Int32).toInt = 112 := by decide
theorem t_113 : (113 : Int32).toInt = 113 := by decide
theorem t_114 : (114 : Int32).toInt = 114 := by decide
theorem t_115 : (115 : Int32).toInt = 115 := by decide
theorem t_116 : (116 : Int32).toInt = 116 := by decide
theorem t_117 : (117 : Int32).toInt = 117 := by decide
theorem t_118 : (118 : Int32).toInt = 118 := by decide
theorem t_119 : (119 : Int32).toInt = 119 := by decide
theorem t_120 : (120 : Int32).toInt = 120 := by decide
theorem t_121 : (121 : Int32).toInt = 121 := by decide
theorem t_122 : (122 : Int32).toInt = 122 := by decide
theorem t_123 : (123 : Int32).toInt = 123 := by decide
theorem t_124 : (124 : Int32).toInt = 124 := by decide
theorem t_125 : (125 : Int32).toInt = 125 := by decide
theorem t_126 : (126 : Int32).toInt = 126 := by decide
theorem t_127 : (127 : Int32).toInt = 127 := by decide
theorem t_128 : (128 : Int32).toInt = 128 := by decide
theorem t_129 : (129 : Int32).toInt = 129 := by decide
theorem t_130 : (130 : Int32).toInt = 130 := by decide
theorem t_131 : (131 : Int32).toInt = 131 := by decide
theorem t_132 : (132 : Int32).toInt = 132 := by decide
theorem t_133 : (133 : Int32).toInt = 133 := by decide
theorem t_134 : (134 : Int32).toInt = 134 := by decide
theorem t_135 : (135 : Int32).toInt = 135 := by decide
theorem t_136 : (136 : Int32).toInt = 136 := by decide
theorem t_137 : (137 : Int32).toInt = 137 := by decide
theorem t_138 : (138 : Int32).toInt = 138 := by decide
theorem t_139 : (139 : Int32).toInt = 139 := by decide
theorem t_200 : (200 : Int32).toInt = 200 := by decide
theorem t_255 : (255 : Int32).toInt = 255 := by decide
theorem t_256 : (256 : Int32).toInt = 256 := by decide
theorem t_384 : (384 : Int32).toInt = 384 := by decide
theorem t_398 : (398 : Int32).toInt = 398 := by decide
theorem t_399 : (399 : Int32).toInt = 399 := by decide
theorem t_400 : (400 : Int32).toInt = 400 := by decide
theorem t_600 : (600 : Int32).toInt = 600 := by decide
theorem t_999 : (999 : Int32).toInt = 999 := by decide
theorem t_2000 : (2000 : Int32).toInt = 2000 := by decide
theorem t_6400 : (6400 : Int32).toInt = 6400 := by decide
theorem t_9999 : (9999 : Int32).toInt = 9999 := by decide
theorem t_10000 : (10000 : Int32).toInt = 10000 := by decide
theorem t_100000 : (100000 : Int32).toInt = 100000 := by decide
theorem t_2000000 : (2000000 : Int32).toInt = 2000000 := by decide
theorem t_2000000000 : (2000000000 : Int32).toInt = 2000000000 := by decide
def G0 (a : Nat → Nat) (v_listed : Int32) (v_shared : Int32) (v_sailing : Int32) (v_leastWorst : Int32) : List Value := [.ref (a 0), .ref (a 1), .ref (a 2), .ref (a 3), .ref (a 4), .int v_listed, .int v_shared, .int v_sailing, .int v_leastWorst]
def G1 (a : Nat → Nat) (v_n : Int64) (v_sumR : Int64) (v_sumW : Int64) (v_sumA : Int64) (v_sumWW : Int64) (v_sumAA : Int64) (v_sumWA : Int64) (v_sumWR : Int64) (v_sumAR : Int64) (v_divisor : Int64) (v_byWarmth : Int64) (v_byAge : Int64) (v_form : Int32) (v_whole : Int64) (v_rest : Int64) : List Value := [.long v_n, .long v_sumR, .long v_sumW, .long v_sumA, .long v_sumWW, .long v_sumAA, .long v_sumWA, .long v_sumWR, .long v_sumAR, .long v_divisor, .long v_byWarmth, .long v_byAge, .int v_form, .long v_whole, .long v_rest]
def G2 (a : Nat → Nat) (v_size : Int32) : List Value := [.ref (a 0), .ref (a 1), .ref (a 2), .ref (a 3), .ref (a 4), .int v_size]
def G3 (a : Nat → Nat) (v_size : Int32) : List Value := [.ref (a 0), .ref (a 1), .ref (a 2), .int v_size]
def G4 (a : Nat → Nat) (v_size : Int32) : List Value := [.ref (a 0), .ref (a 1), .ref (a 2), .int v_size]
def G5 (a : Nat → Nat) (v_sights : Int32) (v_stage : Int32) (v_sailed : Int32) (v_voyage : Int32) : List Value := [.ref (a 0), .ref (a 1), .ref (a 2), .ref (a 3), .ref (a 4), .ref (a 5), .ref (a 6), .int v_sights, .int v_stage, .int v_sailed, .int v_voyage]
def G6 (a : Nat → Nat) (v_size : Int32) (v_rule : Nat) (v_words : Nat) (v_at : Int32) (v_word : Int32) (v_wordAt : Int32) (v_value : Int32) : List Value := [.ref (a 0), .int v_size, .ref v_rule, .ref v_words, .int v_at, .int v_word, .int v_wordAt, .int v_value]
def G7 (a : Nat → Nat)  : List Value := [.ref (a 0), .ref (a 1), .ref (a 2), .ref (a 3)]
def G8 (a : Nat → Nat) (v_trialRule : Nat) (v_dropRule : Nat) (v_today : Int32) : List Value := [.ref (a 0), .ref (a 1), .ref (a 2), .ref (a 3), .ref (a 4), .ref (a 5), .ref (a 6), .ref (a 7), .ref (a 8), .ref (a 9), .ref (a 10), .ref v_trialRule, .ref v_dropRule, .int v_today]
def G9 (a : Nat → Nat) (v_code : Int32) (v_today : Int32) (v_offs : Int32) (v_many : Int64) (v_sumW : Int64) (v_sumA : Int64) (v_sumR : Int64) (v_sumWW : Int64) (v_sumWA : Int64) (v_sumAA : Int64) (v_sumWR : Int64) (v_sumAR : Int64) (v_upper : Int64) (v_lower : Int64) (v_rates : Int32) (v_taped : Int32) (v_laid : Int32) (v_at : Int32) (v_tk : Int32) (v_tkAt : Int32) (v_tkNumber : Int32) (v_waits : Int32) (v_listed : Int32) (v_dealtMany : Int32) : List Value := [.int v_code, .int v_today, .ref (a 2), .ref (a 3), .ref (a 4), .ref (a 5), .ref (a 6), .ref (a 7), .ref (a 8), .ref (a 9), .ref (a 10), .int v_offs, .ref (a 12), .ref (a 13), .ref (a 14), .ref (a 15), .ref (a 16), .long v_many, .long v_sumW, .long v_sumA, .long v_sumR, .long v_sumWW, .long v_sumWA, .long v_sumAA, .long v_sumWR, .long v_sumAR, .long v_upper, .long v_lower, .int v_rates, .ref (a 29), .ref (a 30), .ref (a 31), .ref (a 32), .int v_taped, .ref (a 34), .ref (a 35), .ref (a 36), .ref (a 37), .int v_laid, .int v_at, .int v_tk, .int v_tkAt, .int v_tkNumber, .ref (a 43), .int v_waits, .ref (a 45), .ref (a 46), .ref (a 47), .ref (a 48), .ref (a 49), .ref (a 50), .ref (a 51), .ref (a 52), .ref (a 53), .ref (a 54), .ref (a 55), .ref (a 56), .ref (a 57), .ref (a 58), .ref (a 59), .ref (a 60), .int v_listed, .ref (a 62), .ref (a 63), .int v_dealtMany, .ref (a 65), .ref (a 66), .ref (a 67)]
/-! ===== what the reference's reading methods give ===== -/
def errS (sg fr to bz od : Nat → Int32) (src day k v0 : Int32) : Nat → Int32
  | 0 => v0
  | i + 1 => if (sg i).toInt = src.toInt ∧ ((fr i).toInt ≤ day.toInt ∧ day.toInt ≤ (to i).toInt) ∧ (k.toInt < 0 ∨ (od i).toInt ≤ k.toInt) then errS sg fr to bz od src day k v0 i - bz i else errS sg fr to bz od src day k v0 i
theorem errS_succ (sg fr to bz od : Nat → Int32) (src day k v0 : Int32) (i : Nat) : errS sg fr to bz od src day k v0 (i + 1) = if (sg i).toInt = src.toInt ∧ ((fr i).toInt ≤ day.toInt ∧ day.toInt ≤ (to i).toInt) ∧ (k.toInt < 0 ∨ (od i).toInt ≤ k.toInt) then errS sg fr to bz od src day k v0 i - bz i else errS sg fr to bz od src day k v0 i := rfl
def errF (hs er sr sg fr to bz od : Nat → Int32) (n pl day k : Int32) : Int32 :=
  if (hs (400 * pl + day).toNatClampNeg).toInt = 0 then -2000000000 else errS sg fr to bz od (sr (400 * pl + day).toNatClampNeg) day k (er (400 * pl + day).toNatClampNeg) n.toNatClampNeg
def szF (v : Int32) : Int32 := if v.toInt < 0 then -v else v
def ratG (rp lt : Nat → Int32) (a b at_ : Int32) : Int32 :=
  if (rp (at_ + 1).toNatClampNeg).toInt ≠ 0 ∨ (lt at_.toNatClampNeg).toInt ≠ 0 ∨ (lt (at_ + 1).toNatClampNeg).toInt ≠ 0 then -2000000000
  else if a.toInt = -2000000000 ∨ b.toInt = -2000000000 ∨ 999 < (szF (b - a)).toInt then -2000000000 else b - a
def ratF (hs er sr rp lt sg fr to bz od : Nat → Int32) (n pl day k : Int32) : Int32 :=
  ratG rp lt (errF hs er sr sg fr to bz od n pl day k) (errF hs er sr sg fr to bz od n pl (day + 1) k) (400 * pl + day)
/-- how many of the days p, p + 1 .. have a rate -/
def cntF (R : Int32 → Int32) (p : Int32) : Nat → Int
  | 0 => 0
  | j + 1 => cntF R p j + (if (R (p + nI j)).toInt = -2000000000 then 0 else 1)
theorem cntF_succ (R : Int32 → Int32) (p : Int32) (j : Nat) : cntF R p (j + 1) = cntF R p j + (if (R (p + nI j)).toInt = -2000000000 then 0 else 1) := rfl
theorem cntF_le (R : Int32 → Int32) (p : Int32) : ∀ j : Nat, 0 ≤ cntF R p j ∧ cntF R p j ≤ j
  | 0 => ⟨Int.le_refl 0, Int.le_refl 0⟩
  | j + 1 => by
    have h := cntF_le R p j
    rw [cntF_succ]
    split <;> omega
theorem clampS {i j : Int32} (h0 : 0 ≤ i.toInt) (h : j.toInt = i.toInt + 1) : j.toNatClampNeg = i.toNatClampNeg + 1 := by
  have h1 := i_clamp0 h0
  have h2 := i_clamp0 (x := j) (by omega)
  omega
theorem clampE {i j : Int32} (h0 : 0 ≤ i.toInt) (h : j.toInt = i.toInt) : j.toNatClampNeg = i.toNatClampNeg := by
  rw [i_eq.mpr h]
theorem clamp_0 : (0 : Int32).toNatClampNeg = 0 := by decide
theorem day_at {p d : Int32} (h : p.toInt ≤ d.toInt) (h0 : 0 ≤ p.toInt) : p + nI (d.toInt - p.toInt).toNat = d := by
  have hd := i_hi d
  have e : (nI (d.toInt - p.toInt).toNat).toInt = d.toInt - p.toInt := by
    rw [nI_toInt (by omega)]; omega
  refine i_eq.mpr ?_
  rw [g_add rfl e (by omega) (by omega)]
  omega
theorem cnt_step {R : Int32 → Int32} {p L z : Int32} (h0 : 0 ≤ p.toInt) (h1 : p.toInt ≤ L.toInt) (h2 : z.toInt = L.toInt + 1) : cntF R p (z.toInt - p.toInt).toNat = cntF R p (L.toInt - p.toInt).toNat + (if (R L).toInt = -2000000000 then 0 else 1) := by
  have e : (z.toInt - p.toInt).toNat = (L.toInt - p.toInt).toNat + 1 := by omega
  rw [e, cntF_succ, day_at h1 h0]
def thrF (n w a ww wa aa : Int64) : Int64 := n * (ww * aa - wa * wa) - w * (w * aa - wa * a) + a * (w * wa - ww * a)
def twoF (n w ww : Int64) : Int64 := n * ww - w * w
theorem neg_nz {z x : Int64} (e : z = -x) (h : ¬ x = 0) : ¬ z = 0 := by
  intro h2
  apply h
  rw [e] at h2
  have h3 := congrArg (fun t : Int64 => -t) h2
  simpa using h3
def ch_1_0 : List Cond := [Cond.initialized R_law, Cond.initialized RX8, Cond.initialized RX2, Cond.initialized RX3, Cond.initialized RX1, Cond.initialized RX6, Cond.initialized RX4, Cond.initialized RX0, Cond.initialized RX5, Cond.initialized RX9]
def ch_1_1 : List Cond := [Cond.initialized RX7, Cond.initialized "java/lang/Math", Cond.initialized "java/lang/String", Cond.initialized "java/lang/StringLatin1", Cond.initialized "jdk/internal/util/Preconditions", Cond.initialized "java/lang/StringUTF16", Cond.classLink R_law 7 RX8, Cond.instantiable RX8 14, Cond.methodLink R_law 9 yX8_init, Cond.instanceMethod yX8_init]
def ch_1_2 : List Cond := [Cond.code yX8_init cX8_init 2 none, Cond.methodLink RX8 1 objectInit, Cond.instanceMethod objectInit, Cond.code objectInit ⟨#[0xb1]⟩ 1 none, Cond.classLink RX8 19 RX7, (Jvm.Cond.arrayOver (Jvm.ClassFile.FieldType.object "SeaWatches$Watch")), Cond.classLink RX8 25 RX5, (Jvm.Cond.arrayOver (Jvm.ClassFile.FieldType.object "SeaWatches$Ship")), Cond.classLink RX8 34 RX2, Cond.instantiable RX2 6]
def ch_1_3 : List Cond := [(Jvm.Cond.methodLinkNest "SeaWatches" (36 : Nat) ({ cls := "SeaWatches$Offs", name := "<init>", desc := "()V" } : Jvm.MethodName) "SeaWatches"), Cond.instanceMethod yX2_init, Cond.code yX2_init cX2_init 1 none, Cond.methodLink RX2 3 objectInit, Cond.fieldLink RX2 9 "SeaWatches$Offs" "signals" "[I", Cond.fieldLink RX2 15 "SeaWatches$Offs" "firsts" "[I", Cond.fieldLink RX2 18 "SeaWatches$Offs" "lasts" "[I", Cond.fieldLink RX2 21 "SeaWatches$Offs" "values" "[I", Cond.fieldLink RX2 24 "SeaWatches$Offs" "toldOn" "[I", Cond.fieldLink RX2 27 "SeaWatches$Offs" "size" "I"]
def ch_1_4 : List Cond := [(Jvm.Cond.fieldLinkNest "SeaWatches" (142 : Nat) "SeaWatches$Offs" "size" "I" "SeaWatches"), (Jvm.Cond.laysFinal "SeaWatches$Offs" "SeaWatches$Offs" "signals" "[I"), (Jvm.Cond.soleField "SeaWatches$Offs" "signals"), (Jvm.Cond.laysFinal "SeaWatches$Offs" "SeaWatches$Offs" "firsts" "[I"), (Jvm.Cond.soleField "SeaWatches$Offs" "firsts"), (Jvm.Cond.laysFinal "SeaWatches$Offs" "SeaWatches$Offs" "lasts" "[I"), (Jvm.Cond.soleField "SeaWatches$Offs" "lasts"), (Jvm.Cond.laysFinal "SeaWatches$Offs" "SeaWatches$Offs" "values" "[I"), (Jvm.Cond.soleField "SeaWatches$Offs" "values"), (Jvm.Cond.laysFinal "SeaWatches$Offs" "SeaWatches$Offs" "toldOn" "[I")]
def ch_1_5 : List Cond := [(Jvm.Cond.soleField "SeaWatches$Offs" "toldOn"), (Jvm.Cond.lays "SeaWatches$Offs" "SeaWatches$Offs" "size" "I"), (Jvm.Cond.soleField "SeaWatches$Offs" "size"), (Jvm.Cond.superclass "SeaWatches$Offs" "java/lang/Object"), Cond.arrayClass .int, Cond.classLink RX8 41 RX3, Cond.instantiable RX3 4, (Jvm.Cond.methodLinkNest "SeaWatches" (43 : Nat) ({ cls := "SeaWatches$Rates", name := "<init>", desc := "()V" } : Jvm.MethodName) "SeaWatches"), Cond.instanceMethod yX3_init, Cond.code yX3_init cX3_init 1 none]
def ch_1_6 : List Cond := [Cond.methodLink RX3 3 objectInit, Cond.fieldLink RX3 9 "SeaWatches$Rates" "days" "[I", (Jvm.Cond.fieldLinkNest "SeaWatches" (312 : Nat) "SeaWatches$Rates" "days" "[I" "SeaWatches"), Cond.fieldLink RX3 15 "SeaWatches$Rates" "values" "[I", (Jvm.Cond.fieldLinkNest "SeaWatches" (318 : Nat) "SeaWatches$Rates" "values" "[I" "SeaWatches"), Cond.fieldLink RX3 18 "SeaWatches$Rates" "sorted" "[I", Cond.fieldLink RX3 21 "SeaWatches$Rates" "size" "I", (Jvm.Cond.fieldLinkNest "SeaWatches" (311 : Nat) "SeaWatches$Rates" "size" "I" "SeaWatches"), (Jvm.Cond.laysFinal "SeaWatches$Rates" "SeaWatches$Rates" "days" "[I"), (Jvm.Cond.soleField "SeaWatches$Rates" "days")]
def ch_1_7 : List Cond := [(Jvm.Cond.laysFinal "SeaWatches$Rates" "SeaWatches$Rates" "values" "[I"), (Jvm.Cond.soleField "SeaWatches$Rates" "values"), (Jvm.Cond.laysFinal "SeaWatches$Rates" "SeaWatches$Rates" "sorted" "[I"), (Jvm.Cond.soleField "SeaWatches$Rates" "sorted"), (Jvm.Cond.lays "SeaWatches$Rates" "SeaWatches$Rates" "size" "I"), (Jvm.Cond.soleField "SeaWatches$Rates" "size"), (Jvm.Cond.superclass "SeaWatches$Rates" "java/lang/Object"), Cond.classLink RX8 48 RX1, Cond.instantiable RX1 15, (Jvm.Cond.methodLinkNest "SeaWatches" (50 : Nat) ({ cls := "SeaWatches$Fit", name := "<init>", desc := "()V" } : Jvm.MethodName) "SeaWatches")]
def ch_1_8 : List Cond := [Cond.instanceMethod yX1_init, Cond.code yX1_init cX1_init 1 none, Cond.methodLink RX1 3 objectInit, Cond.fieldLink RX1 19 "SeaWatches$Fit" "n" "J", Cond.fieldLink RX1 22 "SeaWatches$Fit" "sumR" "J", Cond.fieldLink RX1 25 "SeaWatches$Fit" "sumW" "J", Cond.fieldLink RX1 28 "SeaWatches$Fit" "sumA" "J", Cond.fieldLink RX1 31 "SeaWatches$Fit" "sumWW" "J", Cond.fieldLink RX1 34 "SeaWatches$Fit" "sumAA" "J", Cond.fieldLink RX1 37 "SeaWatches$Fit" "sumWA" "J"]
def ch_1_9 : List Cond := [Cond.fieldLink RX1 40 "SeaWatches$Fit" "sumWR" "J", Cond.fieldLink RX1 43 "SeaWatches$Fit" "sumAR" "J", Cond.fieldLink RX1 9 "SeaWatches$Fit" "divisor" "J", Cond.fieldLink RX1 50 "SeaWatches$Fit" "byWarmth" "J", Cond.fieldLink RX1 53 "SeaWatches$Fit" "byAge" "J", Cond.fieldLink RX1 15 "SeaWatches$Fit" "form" "I", Cond.fieldLink RX1 56 "SeaWatches$Fit" "whole" "J", Cond.fieldLink RX1 59 "SeaWatches$Fit" "rest" "J", (Jvm.Cond.lays "SeaWatches$Fit" "SeaWatches$Fit" "n" "J"), (Jvm.Cond.soleField "SeaWatches$Fit" "n")]
def ch_1_10 : List Cond := [(Jvm.Cond.lays "SeaWatches$Fit" "SeaWatches$Fit" "sumR" "J"), (Jvm.Cond.soleField "SeaWatches$Fit" "sumR"), (Jvm.Cond.lays "SeaWatches$Fit" "SeaWatches$Fit" "sumW" "J"), (Jvm.Cond.soleField "SeaWatches$Fit" "sumW"), (Jvm.Cond.lays "SeaWatches$Fit" "SeaWatches$Fit" "sumA" "J"), (Jvm.Cond.soleField "SeaWatches$Fit" "sumA"), (Jvm.Cond.lays "SeaWatches$Fit" "SeaWatches$Fit" "sumWW" "J"), (Jvm.Cond.soleField "SeaWatches$Fit" "sumWW"), (Jvm.Cond.lays "SeaWatches$Fit" "SeaWatches$Fit" "sumAA" "J"), (Jvm.Cond.soleField "SeaWatches$Fit" "sumAA")]
def ch_1_11 : List Cond := [(Jvm.Cond.lays "SeaWatches$Fit" "SeaWatches$Fit" "sumWA" "J"), (Jvm.Cond.soleField "SeaWatches$Fit" "sumWA"), (Jvm.Cond.lays "SeaWatches$Fit" "SeaWatches$Fit" "sumWR" "J"), (Jvm.Cond.soleField "SeaWatches$Fit" "sumWR"), (Jvm.Cond.lays "SeaWatches$Fit" "SeaWatches$Fit" "sumAR" "J"), (Jvm.Cond.soleField "SeaWatches$Fit" "sumAR"), (Jvm.Cond.lays "SeaWatches$Fit" "SeaWatches$Fit" "divisor" "J"), (Jvm.Cond.soleField "SeaWatches$Fit" "divisor"), (Jvm.Cond.lays "SeaWatches$Fit" "SeaWatches$Fit" "byWarmth" "J"), (Jvm.Cond.soleField "SeaWatches$Fit" "byWarmth")]
def ch_1_12 : List Cond := [(Jvm.Cond.lays "SeaWatches$Fit" "SeaWatches$Fit" "byAge" "J"), (Jvm.Cond.soleField "SeaWatches$Fit" "byAge"), (Jvm.Cond.lays "SeaWatches$Fit" "SeaWatches$Fit" "form" "I"), (Jvm.Cond.soleField "SeaWatches$Fit" "form"), (Jvm.Cond.lays "SeaWatches$Fit" "SeaWatches$Fit" "whole" "J"), (Jvm.Cond.soleField "SeaWatches$Fit" "whole"), (Jvm.Cond.lays "SeaWatches$Fit" "SeaWatches$Fit" "rest" "J"), (Jvm.Cond.soleField "SeaWatches$Fit" "rest"), (Jvm.Cond.superclass "SeaWatches$Fit" "java/lang/Object"), Cond.classLink RX8 55 RX6]
def ch_1_13 : List Cond := [Cond.instantiable RX6 8, (Jvm.Cond.methodLinkNest "SeaWatches" (57 : Nat) ({ cls := "SeaWatches$Tape", name := "<init>", desc := "()V" } : Jvm.MethodName) "SeaWatches"), Cond.instanceMethod yX6_init, Cond.code yX6_init cX6_init 1 none, Cond.methodLink RX6 3 objectInit, Cond.classLink RX6 19 RX4, Cond.instantiable RX4 4, (Jvm.Cond.methodLinkNest "SeaWatches$Tape" (21 : Nat) ({ cls := "SeaWatches$Rule", name := "<init>", desc := "()V" } : Jvm.MethodName) "SeaWatches"), Cond.instanceMethod yX4_init, Cond.code yX4_init cX4_init 1 none]
def ch_1_14 : List Cond := [Cond.methodLink RX4 3 objectInit, Cond.fieldLink RX4 9 "SeaWatches$Rule" "signs" "[I", Cond.fieldLink RX4 15 "SeaWatches$Rule" "values" "[I", Cond.fieldLink RX4 18 "SeaWatches$Rule" "stack" "[I", Cond.fieldLink RX4 21 "SeaWatches$Rule" "size" "I", (Jvm.Cond.fieldLinkNest "SeaWatches$Tape" (44 : Nat) "SeaWatches$Rule" "size" "I" "SeaWatches"), (Jvm.Cond.fieldLinkNest "SeaWatches" (327 : Nat) "SeaWatches$Rule" "size" "I" "SeaWatches"), (Jvm.Cond.laysFinal "SeaWatches$Rule" "SeaWatches$Rule" "signs" "[I"), (Jvm.Cond.soleField "SeaWatches$Rule" "signs"), (Jvm.Cond.laysFinal "SeaWatches$Rule" "SeaWatches$Rule" "values" "[I")]
def ch_1_15 : List Cond := [(Jvm.Cond.soleField "SeaWatches$Rule" "values"), (Jvm.Cond.laysFinal "SeaWatches$Rule" "SeaWatches$Rule" "stack" "[I"), (Jvm.Cond.soleField "SeaWatches$Rule" "stack"), (Jvm.Cond.lays "SeaWatches$Rule" "SeaWatches$Rule" "size" "I"), (Jvm.Cond.soleField "SeaWatches$Rule" "size"), (Jvm.Cond.superclass "SeaWatches$Rule" "java/lang/Object"), (Jvm.Cond.stringRef "SeaWatches$Tape" (26 : Nat) ""), Cond.fieldLink RX6 9 "SeaWatches$Tape" "bytes" "[I", Cond.fieldLink RX6 15 "SeaWatches$Tape" "size" "I", (Jvm.Cond.fieldLinkNest "SeaWatches" (179 : Nat) "SeaWatches$Tape" "size" "I" "SeaWatches")]
def ch_1_16 : List Cond := [Cond.fieldLink RX6 22 "SeaWatches$Tape" "rule" "LSeaWatches$Rule;", Cond.fieldLink RX6 28 "SeaWatches$Tape" "words" "Ljava/lang/String;", Cond.fieldLink RX6 32 "SeaWatches$Tape" "at" "I", Cond.fieldLink RX6 35 "SeaWatches$Tape" "word" "I", Cond.fieldLink RX6 38 "SeaWatches$Tape" "wordAt" "I", Cond.fieldLink RX6 41 "SeaWatches$Tape" "value" "I", (Jvm.Cond.laysFinal "SeaWatches$Tape" "SeaWatches$Tape" "bytes" "[I"), (Jvm.Cond.soleField "SeaWatches$Tape" "bytes"), (Jvm.Cond.lays "SeaWatches$Tape" "SeaWatches$Tape" "size" "I"), (Jvm.Cond.soleField "SeaWatches$Tape" "size")]
def ch_1_17 : List Cond := [(Jvm.Cond.lays "SeaWatches$Tape" "SeaWatches$Tape" "rule" "LSeaWatches$Rule;"), (Jvm.Cond.soleField "SeaWatches$Tape" "rule"), (Jvm.Cond.lays "SeaWatches$Tape" "SeaWatches$Tape" "words" "Ljava/lang/String;"), (Jvm.Cond.soleField "SeaWatches$Tape" "words"), (Jvm.Cond.lays "SeaWatches$Tape" "SeaWatches$Tape" "at" "I"), (Jvm.Cond.soleField "SeaWatches$Tape" "at"), (Jvm.Cond.lays "SeaWatches$Tape" "SeaWatches$Tape" "word" "I"), (Jvm.Cond.soleField "SeaWatches$Tape" "word"), (Jvm.Cond.lays "SeaWatches$Tape" "SeaWatches$Tape" "wordAt" "I"), (Jvm.Cond.soleField "SeaWatches$Tape" "wordAt")]
def ch_1_18 : List Cond := [(Jvm.Cond.lays "SeaWatches$Tape" "SeaWatches$Tape" "value" "I"), (Jvm.Cond.soleField "SeaWatches$Tape" "value"), (Jvm.Cond.superclass "SeaWatches$Tape" "java/lang/Object"), Cond.arrayClass .byte, Cond.classLink RX8 62 RX0, Cond.instantiable RX0 9, (Jvm.Cond.methodLinkNest "SeaWatches" (64 : Nat) ({ cls := "SeaWatches$Dealing", name := "<init>", desc := "()V" } : Jvm.MethodName) "SeaWatches"), Cond.instanceMethod yX0_init, Cond.code yX0_init cX0_init 1 none, Cond.methodLink RX0 3 objectInit]
def ch_1_19 : List Cond := [Cond.fieldLink RX0 9 "SeaWatches$Dealing" "doubts" "[I", Cond.fieldLink RX0 15 "SeaWatches$Dealing" "way" "[I", Cond.fieldLink RX0 18 "SeaWatches$Dealing" "best" "[I", (Jvm.Cond.fieldLinkNest "SeaWatches" (285 : Nat) "SeaWatches$Dealing" "best" "[I" "SeaWatches"), Cond.fieldLink RX0 21 "SeaWatches$Dealing" "voyages" "[I", Cond.fieldLink RX0 24 "SeaWatches$Dealing" "given" "[I", Cond.fieldLink RX0 27 "SeaWatches$Dealing" "listed" "I", (Jvm.Cond.fieldLinkNest "SeaWatches" (275 : Nat) "SeaWatches$Dealing" "listed" "I" "SeaWatches"), Cond.fieldLink RX0 31 "SeaWatches$Dealing" "shared" "I", (Jvm.Cond.fieldLinkNest "SeaWatches" (282 : Nat) "SeaWatches$Dealing" "shared" "I" "SeaWatches")]
def ch_1_20 : List Cond := [Cond.fieldLink RX0 34 "SeaWatches$Dealing" "sailing" "I", Cond.fieldLink RX0 37 "SeaWatches$Dealing" "leastWorst" "I", (Jvm.Cond.laysFinal "SeaWatches$Dealing" "SeaWatches$Dealing" "doubts" "[I"), (Jvm.Cond.soleField "SeaWatches$Dealing" "doubts"), (Jvm.Cond.laysFinal "SeaWatches$Dealing" "SeaWatches$Dealing" "way" "[I"), (Jvm.Cond.soleField "SeaWatches$Dealing" "way"), (Jvm.Cond.laysFinal "SeaWatches$Dealing" "SeaWatches$Dealing" "best" "[I"), (Jvm.Cond.soleField "SeaWatches$Dealing" "best"), (Jvm.Cond.laysFinal "SeaWatches$Dealing" "SeaWatches$Dealing" "voyages" "[I"), (Jvm.Cond.soleField "SeaWatches$Dealing" "voyages")]
def ch_1_21 : List Cond := [(Jvm.Cond.laysFinal "SeaWatches$Dealing" "SeaWatches$Dealing" "given" "[I"), (Jvm.Cond.soleField "SeaWatches$Dealing" "given"), (Jvm.Cond.lays "SeaWatches$Dealing" "SeaWatches$Dealing" "listed" "I"), (Jvm.Cond.soleField "SeaWatches$Dealing" "listed"), (Jvm.Cond.lays "SeaWatches$Dealing" "SeaWatches$Dealing" "shared" "I"), (Jvm.Cond.soleField "SeaWatches$Dealing" "shared"), (Jvm.Cond.lays "SeaWatches$Dealing" "SeaWatches$Dealing" "sailing" "I"), (Jvm.Cond.soleField "SeaWatches$Dealing" "sailing"), (Jvm.Cond.lays "SeaWatches$Dealing" "SeaWatches$Dealing" "leastWorst" "I"), (Jvm.Cond.soleField "SeaWatches$Dealing" "leastWorst")]
def ch_1_22 : List Cond := [(Jvm.Cond.superclass "SeaWatches$Dealing" "java/lang/Object"), Cond.classLink RX8 69 RX4, (Jvm.Cond.methodLinkNest "SeaWatches" (71 : Nat) ({ cls := "SeaWatches$Rule", name := "<init>", desc := "()V" } : Jvm.MethodName) "SeaWatches"), Cond.instantiable RX5 11, (Jvm.Cond.methodLinkNest "SeaWatches" (83 : Nat) ({ cls := "SeaWatches$Ship", name := "<init>", desc := "()V" } : Jvm.MethodName) "SeaWatches"), Cond.instanceMethod yX5_init, Cond.code yX5_init cX5_init 1 none, Cond.methodLink RX5 3 objectInit, Cond.fieldLink RX5 9 "SeaWatches$Ship" "places" "[I", (Jvm.Cond.fieldLinkNest "SeaWatches" (220 : Nat) "SeaWatches$Ship" "places" "[I" "SeaWatches")]
def ch_1_23 : List Cond := [Cond.fieldLink RX5 15 "SeaWatches$Ship" "starts" "[I", (Jvm.Cond.fieldLinkNest "SeaWatches" (223 : Nat) "SeaWatches$Ship" "starts" "[I" "SeaWatches"), Cond.fieldLink RX5 18 "SeaWatches$Ship" "goings" "[I", (Jvm.Cond.fieldLinkNest "SeaWatches" (226 : Nat) "SeaWatches$Ship" "goings" "[I" "SeaWatches"), Cond.fieldLink RX5 21 "SeaWatches$Ship" "doubts" "[I", (Jvm.Cond.fieldLinkNest "SeaWatches" (229 : Nat) "SeaWatches$Ship" "doubts" "[I" "SeaWatches"), Cond.fieldLink RX5 24 "SeaWatches$Ship" "ends" "[I", (Jvm.Cond.fieldLinkNest "SeaWatches" (368 : Nat) "SeaWatches$Ship" "ends" "[I" "SeaWatches"), Cond.fieldLink RX5 27 "SeaWatches$Ship" "sightDays" "[I", (Jvm.Cond.fieldLinkNest "SeaWatches" (243 : Nat) "SeaWatches$Ship" "sightDays" "[I" "SeaWatches")]
set_option maxRecDepth 100000 in
theorem tq_1 : tables_1_1 = ch_1_0 ++ (ch_1_1 ++ (ch_1_2 ++ (ch_1_3 ++ (ch_1_4 ++ (ch_1_5 ++ (ch_1_6 ++ (ch_1_7 ++ (ch_1_8 ++ (ch_1_9 ++ (ch_1_10 ++ (ch_1_11 ++ (ch_1_12 ++ (ch_1_13 ++ (ch_1_14 ++ (ch_1_15 ++ (ch_1_16 ++ (ch_1_17 ++ (ch_1_18 ++ (ch_1_19 ++ (ch_1_20 ++ (ch_1_21 ++ (ch_1_22 ++ (ch_1_23))))))))))))))))))))))) := rfl
theorem cm_1_0 {w : Cond} (h : w ∈ ch_1_0) (hg : goodWord w = true) : w ∈ tb := List.mem_filter.mpr ⟨List.mem_append_right _ (show w ∈ tables_1 from List.mem_append_left _ (show w ∈ tables_1_1 from by rw [tq_1]; exact List.mem_append_left _ h)), hg⟩
theorem cm_1_1 {w : Cond} (h : w ∈ ch_1_1) (hg : goodWord w = true) : w ∈ tb := List.mem_filter.mpr ⟨List.mem_append_right _ (show w ∈ tables_1 from List.mem_append_left _ (show w ∈ tables_1_1 from by rw [tq_1]; exact List.mem_append_right _ (List.mem_append_left _ h))), hg⟩
theorem cm_1_2 {w : Cond} (h : w ∈ ch_1_2) (hg : goodWord w = true) : w ∈ tb := List.mem_filter.mpr ⟨List.mem_append_right _ (show w ∈ tables_1 from List.mem_append_left _ (show w ∈ tables_1_1 from by rw [tq_1]; exact List.mem_append_right _ (List.mem_append_right _ (List.mem_append_left _ h)))), hg⟩
theorem cm_1_3 {w : Cond} (h : w ∈ ch_1_3) (hg : goodWord w = true) : w ∈ tb := List.mem_filter.mpr ⟨List.mem_append_right _ (show w ∈ tables_1 from List.mem_append_left _ (show w ∈ tables_1_1 from by rw [tq_1]; exact List.mem_append_right _ (List.mem_append_right _ (List.mem_append_right _ (List.mem_append_left _ h))))), hg⟩
theorem cm_1_4 {w : Cond} (h : w ∈ ch_1_4) (hg : goodWord w = true) : w ∈ tb := List.mem_filter.mpr ⟨List.mem_append_right _ (show w ∈ tables_1 from List.mem_append_left _ (show w ∈ tables_1_1 from by rw [tq_1]; exact List.mem_append_right _ (List.mem_append_right _ (List.mem_append_right _ (List.mem_append_right _ (List.mem_append_left _ h)))))), hg⟩
theorem cm_1_5 {w : Cond} (h : w ∈ ch_1_5) (hg : goodWord w = true) : w ∈ tb := List.mem_filter.mpr ⟨List.mem_append_right _ (show w ∈ tables_1 from List.mem_append_left _ (show w ∈ tables_1_1 from by rw [tq_1]; exact List.mem_append_right _ (List.mem_append_right _ (List.mem_append_right _ (List.mem_append_right _ (List.mem_append_right _ (List.mem_append_left _ h))))))), hg⟩
theorem cm_1_6 {w : Cond} (h : w ∈ ch_1_6) (hg : goodWord w = true) : w ∈ tb := List.mem_filter.mpr ⟨List.mem_append_right _ (show w ∈ tables_1 from List.mem_append_left _ (show w ∈ tables_1_1 from by rw [tq_1]; exact List.mem_append_right _ (List.mem_append_right _ (List.mem_append_right _ (List.mem_append_right _ (List.mem_append_right _ (List.mem_append_right _ (List.mem_append_left _ h)))))))), hg⟩
theorem cm_1_7 {w : Cond} (h : w ∈ ch_1_7) (hg : goodWord w = true) : w ∈ tb := List.mem_filter.mpr ⟨List.mem_append_right _ (show w ∈ tables_1 from List.mem_append_left _ (show w ∈ tables_1_1 from by rw [tq_1]; exact List.mem_append_right _ (List.mem_append_right _ (List.mem_append_right _ (List.mem_append_right _ (List.mem_append_right _ (List.mem_append_right _ (List.mem_append_right _ (List.mem_append_left _ h))))))))), hg⟩
theorem cm_1_8 {w : Cond} (h : w ∈ ch_1_8) (hg : goodWord w = true) : w ∈ tb := List.mem_filter.mpr ⟨List.mem_append_right _ (show w ∈ tables_1 from List.mem_append_left _ (show w ∈ tables_1_1 from by rw [tq_1]; exact List.mem_append_right _ (List.mem_append_right _ (List.mem_append_right _ (List.mem_append_right _ (List.mem_append_right _ (List.mem_append_right _ (List.mem_append_right _ (List.mem_append_right _ (List.mem_append_left _ h)))))))))), hg⟩
theorem cm_1_9 {w : Cond} (h : w ∈ ch_1_9) (hg : goodWord w = true) : w ∈ tb := List.mem_filter.mpr ⟨List.mem_append_right _ (show w ∈ tables_1 from List.mem_append_left _ (show w ∈ tables_1_1 from by rw [tq_1]; exact List.mem_append_right _ (List.mem_append_right _ (List.mem_append_right _ (List.mem_append_right _ (List.mem_append_right _ (List.mem_append_right _ (List.mem_append_right _ (List.mem_append_right _ (List.mem_append_right _ (List.mem_append_left _ h))))))))))), hg⟩
theorem cm_1_10 {w : Cond} (h : w ∈ ch_1_10) (hg : goodWord w = true) : w ∈ tb := List.mem_filter.mpr ⟨List.mem_append_right _ (show w ∈ tables_1 from List.mem_append_left _ (show w ∈ tables_1_1 from by rw [tq_1]; exact List.mem_append_right _ (List.mem_append_right _ (List.mem_append_right _ (List.mem_append_right _ (List.mem_append_right _ (List.mem_append_right _ (List.mem_append_right _ (List.mem_append_right _ (List.mem_append_right _ (List.mem_append_right _ (List.mem_append_left _ h)))))))))))), hg⟩
theorem cm_1_11 {w : Cond} (h : w ∈ ch_1_11) (hg : goodWord w = true) : w ∈ tb := List.mem_filter.mpr ⟨List.mem_append_right _ (show w ∈ tables_1 from List.mem_append_left _ (show w ∈ tables_1_1 from by rw [tq_1]; exact List.mem_append_right _ (List.mem_append_right _ (List.mem_append_right _ (List.mem_append_right _ (List.mem_append_right _ (List.mem_append_right _ (List.mem_append_right _ (List.mem_append_right _ (List.mem_append_right _ (List.mem_append_right _ (List.mem_append_right _ (List.mem_append_left _ h))))))))))))), hg⟩
theorem cm_1_12 {w : Cond} (h : w ∈ ch_1_12) (hg : goodWord w = true) : w ∈ tb := List.mem_filter.mpr ⟨List.mem_append_right _ (show w ∈ tables_1 from List.mem_append_left _ (show w ∈ tables_1_1 from by rw [tq_1]; exact List.mem_append_right _ (List.mem_append_right _ (List.mem_append_right _ (List.mem_append_right _ (List.mem_append_right _ (List.mem_append_right _ (List.mem_append_right _ (List.mem_append_right _ (List.mem_append_right _ (List.mem_append_right _ (List.mem_append_right _ (List.mem_append_right _ (List.mem_append_left _ h)))))))))))))), hg⟩
theorem cm_1_13 {w : Cond} (h : w ∈ ch_1_13) (hg : goodWord w = true) : w ∈ tb := List.mem_filter.mpr ⟨List.mem_append_right _ (show w ∈ tables_1 from List.mem_append_left _ (show w ∈ tables_1_1 from by rw [tq_1]; exact List.mem_append_right _ (List.mem_append_right _ (List.mem_append_right _ (List.mem_append_right _ (List.mem_append_right _ (List.mem_append_right _ (List.mem_append_right _ (List.mem_append_right _ (List.mem_append_right _ (List.mem_append_right _ (List.mem_append_right _ (List.mem_append_right _ (List.mem_append_right _ (List.mem_append_left _ h))))))))))))))), hg⟩
theorem cm_1_14 {w : Cond} (h : w ∈ ch_1_14) (hg : goodWord w = true) : w ∈ tb := List.mem_filter.mpr ⟨List.mem_append_right _ (show w ∈ tables_1 from List.mem_append_left _ (show w ∈ tables_1_1 from by rw [tq_1]; exact List.mem_append_right _ (List.mem_append_right _ (List.mem_append_right _ (List.mem_append_right _ (List.mem_append_right _ (List.mem_append_right _ (List.mem_append_right _ (List.mem_append_right _ (List.mem_append_right _ (List.mem_append_right _ (List.mem_append_right _ (List.mem_append_right _ (List.mem_append_right _ (List.mem_append_right _ (List.mem_append_left _ h)))))))))))))))), hg⟩
theorem cm_1_15 {w : Cond} (h : w ∈ ch_1_15) (hg : goodWord w = true) : w ∈ tb := List.mem_filter.mpr ⟨List.mem_append_right _ (show w ∈ tables_1 from List.mem_append_left _ (show w ∈ tables_1_1 from by rw [tq_1]; exact List.mem_append_right _ (List.mem_append_right _ (List.mem_append_right _ (List.mem_append_right _ (List.mem_append_right _ (List.mem_append_right _ (List.mem_append_right _ (List.mem_append_right _ (List.mem_append_right _ (List.mem_append_right _ (List.mem_append_right _ (List.mem_append_right _ (List.mem_append_right _ (List.mem_append_right _ (List.mem_append_right _ (List.mem_append_left _ h))))))))))))))))), hg⟩
theorem cm_1_16 {w : Cond} (h : w ∈ ch_1_16) (hg : goodWord w = true) : w ∈ tb := List.mem_filter.mpr ⟨List.mem_append_right _ (show w ∈ tables_1 from List.mem_append_left _ (show w ∈ tables_1_1 from by rw [tq_1]; exact List.mem_append_right _ (List.mem_append_right _ (List.mem_append_right _ (List.mem_append_right _ (List.mem_append_right _ (List.mem_append_right _ (List.mem_append_right _ (List.mem_append_right _ (List.mem_append_right _ (List.mem_append_right _ (List.mem_append_right _ (List.mem_append_right _ (List.mem_append_right _ (List.mem_append_right _ (List.mem_append_right _ (List.mem_append_right _ (List.mem_append_left _ h)))))))))))))))))), hg⟩
theorem cm_1_17 {w : Cond} (h : w ∈ ch_1_17) (hg : goodWord w = true) : w ∈ tb := List.mem_filter.mpr ⟨List.mem_append_right _ (show w ∈ tables_1 from List.mem_append_left _ (show w ∈ tables_1_1 from by rw [tq_1]; exact List.mem_append_right _ (List.mem_append_right _ (List.mem_append_right _ (List.mem_append_right _ (List.mem_append_right _ (List.mem_append_right _ (List.mem_append_right _ (List.mem_append_right _ (List.mem_append_right _ (List.mem_append_right _ (List.mem_append_right _ (List.mem_append_right _ (List.mem_append_right _ (List.mem_append_right _ (List.mem_append_right _ (List.mem_append_right _ (List.mem_append_right _ (List.mem_append_left _ h))))))))))))))))))), hg⟩
theorem cm_1_18 {w : Cond} (h : w ∈ ch_1_18) (hg : goodWord w = true) : w ∈ tb := List.mem_filter.mpr ⟨List.mem_append_right _ (show w ∈ tables_1 from List.mem_append_left _ (show w ∈ tables_1_1 from by rw [tq_1]; exact List.mem_append_right _ (List.mem_append_right _ (List.mem_append_right _ (List.mem_append_right _ (List.mem_append_right _ (List.mem_append_right _ (List.mem_append_right _ (List.mem_append_right _ (List.mem_append_right _ (List.mem_append_right _ (List.mem_append_right _ (List.mem_append_right _ (List.mem_append_right _ (List.mem_append_right _ (List.mem_append_right _ (List.mem_append_right _ (List.mem_append_right _ (List.mem_append_right _ (List.mem_append_left _ h)))))))))))))))))))), hg⟩
theorem cm_1_19 {w : Cond} (h : w ∈ ch_1_19) (hg : goodWord w = true) : w ∈ tb := List.mem_filter.mpr ⟨List.mem_append_right _ (show w ∈ tables_1 from List.mem_append_left _ (show w ∈ tables_1_1 from by rw [tq_1]; exact List.mem_append_right _ (List.mem_append_right _ (List.mem_append_right _ (List.mem_append_right _ (List.mem_append_right _ (List.mem_append_right _ (List.mem_append_right _ (List.mem_append_right _ (List.mem_append_right _ (List.mem_append_right _ (List.mem_append_right _ (List.mem_append_right _ (List.mem_append_right _ (List.mem_append_right _ (List.mem_append_right _ (List.mem_append_right _ (List.mem_append_right _ (List.mem_append_right _ (List.mem_append_right _ (List.mem_append_left _ h))))))))))))))))))))), hg⟩
theorem cm_1_20 {w : Cond} (h : w ∈ ch_1_20) (hg : goodWord w = true) : w ∈ tb := List.mem_filter.mpr ⟨List.mem_append_right _ (show w ∈ tables_1 from List.mem_append_left _ (show w ∈ tables_1_1 from by rw [tq_1]; exact List.mem_append_right _ (List.mem_append_right _ (List.mem_append_right _ (List.mem_append_right _ (List.mem_append_right _ (List.mem_append_right _ (List.mem_append_right _ (List.mem_append_right _ (List.mem_append_right _ (List.mem_append_right _ (List.mem_append_right _ (List.mem_append_right _ (List.mem_append_right _ (List.mem_append_right _ (List.mem_append_right _ (List.mem_append_right _ (List.mem_append_right _ (List.mem_append_right _ (List.mem_append_right _ (List.mem_append_right _ (List.mem_append_left _ h)))))))))))))))))))))), hg⟩
theorem cm_1_21 {w : Cond} (h : w ∈ ch_1_21) (hg : goodWord w = true) : w ∈ tb := List.mem_filter.mpr ⟨List.mem_append_right _ (show w ∈ tables_1 from List.mem_append_left _ (show w ∈ tables_1_1 from by rw [tq_1]; exact List.mem_append_right _ (List.mem_append_right _ (List.mem_append_right _ (List.mem_append_right _ (List.mem_append_right _ (List.mem_append_right _ (List.mem_append_right _ (List.mem_append_right _ (List.mem_append_right _ (List.mem_append_right _ (List.mem_append_right _ (List.mem_append_right _ (List.mem_append_right _ (List.mem_append_right _ (List.mem_append_right _ (List.mem_append_right _ (List.mem_append_right _ (List.mem_append_right _ (List.mem_append_right _ (List.mem_append_right _ (List.mem_append_right _ (List.mem_append_left _ h))))))))))))))))))))))), hg⟩
theorem cm_1_22 {w : Cond} (h : w ∈ ch_1_22) (hg : goodWord w = true) : w ∈ tb := List.mem_filter.mpr ⟨List.mem_append_right _ (show w ∈ tables_1 from List.mem_append_left _ (show w ∈ tables_1_1 from by rw [tq_1]; exact List.mem_append_right _ (List.mem_append_right _ (List.mem_append_right _ (List.mem_append_right _ (List.mem_append_right _ (List.mem_append_right _ (List.mem_append_right _ (List.mem_append_right _ (List.mem_append_right _ (List.mem_append_right _ (List.mem_append_right _ (List.mem_append_right _ (List.mem_append_right _ (List.mem_append_right _ (List.mem_append_right _ (List.mem_append_right _ (List.mem_append_right _ (List.mem_append_right _ (List.mem_append_right _ (List.mem_append_right _ (List.mem_append_right _ (List.mem_append_right _ (List.mem_append_left _ h)))))))))))))))))))))))), hg⟩
theorem cm_1_23 {w : Cond} (h : w ∈ ch_1_23) (hg : goodWord w = true) : w ∈ tb := List.mem_filter.mpr ⟨List.mem_append_right _ (show w ∈ tables_1 from List.mem_append_left _ (show w ∈ tables_1_1 from by rw [tq_1]; exact List.mem_append_right _ (List.mem_append_right _ (List.mem_append_right _ (List.mem_append_right _ (List.mem_append_right _ (List.mem_append_right _ (List.mem_append_right _ (List.mem_append_right _ (List.mem_append_right _ (List.mem_append_right _ (List.mem_append_right _ (List.mem_append_right _ (List.mem_append_right _ (List.mem_append_right _ (List.mem_append_right _ (List.mem_append_right _ (List.mem_append_right _ (List.mem_append_right _ (List.mem_append_right _ (List.mem_append_right _ (List.mem_append_right _ (List.mem_append_right _ (List.mem_append_right _ (h))))))))))))))))))))))))), hg⟩
def ch_2_0 : List Cond := [Cond.fieldLink RX5 30 "SeaWatches$Ship" "shown" "[I", Cond.fieldLink RX5 33 "SeaWatches$Ship" "sights" "I", (Jvm.Cond.fieldLinkNest "SeaWatches" (236 : Nat) "SeaWatches$Ship" "sights" "I" "SeaWatches"), Cond.fieldLink RX5 37 "SeaWatches$Ship" "stage" "I", (Jvm.Cond.fieldLinkNest "SeaWatches" (208 : Nat) "SeaWatches$Ship" "stage" "I" "SeaWatches"), Cond.fieldLink RX5 40 "SeaWatches$Ship" "sailed" "I", (Jvm.Cond.fieldLinkNest "SeaWatches" (262 : Nat) "SeaWatches$Ship" "sailed" "I" "SeaWatches"), Cond.fieldLink RX5 43 "SeaWatches$Ship" "voyage" "I", (Jvm.Cond.fieldLinkNest "SeaWatches" (272 : Nat) "SeaWatches$Ship" "voyage" "I" "SeaWatches"), (Jvm.Cond.laysFinal "SeaWatches$Ship" "SeaWatches$Ship" "places" "[I")]
def ch_2_1 : List Cond := [(Jvm.Cond.soleField "SeaWatches$Ship" "places"), (Jvm.Cond.laysFinal "SeaWatches$Ship" "SeaWatches$Ship" "starts" "[I"), (Jvm.Cond.soleField "SeaWatches$Ship" "starts"), (Jvm.Cond.laysFinal "SeaWatches$Ship" "SeaWatches$Ship" "goings" "[I"), (Jvm.Cond.soleField "SeaWatches$Ship" "goings"), (Jvm.Cond.laysFinal "SeaWatches$Ship" "SeaWatches$Ship" "doubts" "[I"), (Jvm.Cond.soleField "SeaWatches$Ship" "doubts"), (Jvm.Cond.laysFinal "SeaWatches$Ship" "SeaWatches$Ship" "ends" "[I"), (Jvm.Cond.soleField "SeaWatches$Ship" "ends"), (Jvm.Cond.laysFinal "SeaWatches$Ship" "SeaWatches$Ship" "sightDays" "[I")]
def ch_2_2 : List Cond := [(Jvm.Cond.soleField "SeaWatches$Ship" "sightDays"), (Jvm.Cond.laysFinal "SeaWatches$Ship" "SeaWatches$Ship" "shown" "[I"), (Jvm.Cond.soleField "SeaWatches$Ship" "shown"), (Jvm.Cond.lays "SeaWatches$Ship" "SeaWatches$Ship" "sights" "I"), (Jvm.Cond.soleField "SeaWatches$Ship" "sights"), (Jvm.Cond.lays "SeaWatches$Ship" "SeaWatches$Ship" "stage" "I"), (Jvm.Cond.soleField "SeaWatches$Ship" "stage"), (Jvm.Cond.lays "SeaWatches$Ship" "SeaWatches$Ship" "sailed" "I"), (Jvm.Cond.soleField "SeaWatches$Ship" "sailed"), (Jvm.Cond.lays "SeaWatches$Ship" "SeaWatches$Ship" "voyage" "I")]
def ch_2_3 : List Cond := [(Jvm.Cond.soleField "SeaWatches$Ship" "voyage"), (Jvm.Cond.superclass "SeaWatches$Ship" "java/lang/Object"), Cond.fieldLink RX8 9 "SeaWatches" "warmths" "[I", Cond.fieldLink RX8 13 "SeaWatches" "kinds" "[I", Cond.fieldLink RX8 16 "SeaWatches" "numbers" "[I", Cond.fieldLink RX8 21 "SeaWatches" "watches" "[LSeaWatches$Watch;", Cond.fieldLink RX8 27 "SeaWatches" "ships" "[LSeaWatches$Ship;", Cond.fieldLink RX8 31 "SeaWatches" "names" "[I", Cond.fieldLink RX8 37 "SeaWatches" "offs" "LSeaWatches$Offs;", Cond.fieldLink RX8 44 "SeaWatches" "rates" "LSeaWatches$Rates;"]
def ch_2_4 : List Cond := [Cond.fieldLink RX8 51 "SeaWatches" "fit" "LSeaWatches$Fit;", Cond.fieldLink RX8 58 "SeaWatches" "tape" "LSeaWatches$Tape;", Cond.fieldLink RX8 65 "SeaWatches" "dealing" "LSeaWatches$Dealing;", Cond.fieldLink RX8 72 "SeaWatches" "trialRule" "LSeaWatches$Rule;", Cond.fieldLink RX8 76 "SeaWatches" "dropRule" "LSeaWatches$Rule;", Cond.fieldLink RX8 79 "SeaWatches" "today" "I", (Jvm.Cond.laysFinal "SeaWatches" "SeaWatches" "warmths" "[I"), (Jvm.Cond.soleField "SeaWatches" "warmths"), (Jvm.Cond.laysFinal "SeaWatches" "SeaWatches" "kinds" "[I"), (Jvm.Cond.soleField "SeaWatches" "kinds")]
def ch_2_5 : List Cond := [(Jvm.Cond.laysFinal "SeaWatches" "SeaWatches" "numbers" "[I"), (Jvm.Cond.soleField "SeaWatches" "numbers"), (Jvm.Cond.laysFinal "SeaWatches" "SeaWatches" "watches" "[LSeaWatches$Watch;"), (Jvm.Cond.soleField "SeaWatches" "watches"), (Jvm.Cond.laysFinal "SeaWatches" "SeaWatches" "ships" "[LSeaWatches$Ship;"), (Jvm.Cond.soleField "SeaWatches" "ships"), (Jvm.Cond.laysFinal "SeaWatches" "SeaWatches" "names" "[I"), (Jvm.Cond.soleField "SeaWatches" "names"), (Jvm.Cond.laysFinal "SeaWatches" "SeaWatches" "offs" "LSeaWatches$Offs;"), (Jvm.Cond.soleField "SeaWatches" "offs")]
def ch_2_6 : List Cond := [(Jvm.Cond.laysFinal "SeaWatches" "SeaWatches" "rates" "LSeaWatches$Rates;"), (Jvm.Cond.soleField "SeaWatches" "rates"), (Jvm.Cond.laysFinal "SeaWatches" "SeaWatches" "fit" "LSeaWatches$Fit;"), (Jvm.Cond.soleField "SeaWatches" "fit"), (Jvm.Cond.laysFinal "SeaWatches" "SeaWatches" "tape" "LSeaWatches$Tape;"), (Jvm.Cond.soleField "SeaWatches" "tape"), (Jvm.Cond.laysFinal "SeaWatches" "SeaWatches" "dealing" "LSeaWatches$Dealing;"), (Jvm.Cond.soleField "SeaWatches" "dealing"), (Jvm.Cond.lays "SeaWatches" "SeaWatches" "trialRule" "LSeaWatches$Rule;"), (Jvm.Cond.soleField "SeaWatches" "trialRule")]
def ch_2_7 : List Cond := [(Jvm.Cond.lays "SeaWatches" "SeaWatches" "dropRule" "LSeaWatches$Rule;"), (Jvm.Cond.soleField "SeaWatches" "dropRule"), (Jvm.Cond.lays "SeaWatches" "SeaWatches" "today" "I"), (Jvm.Cond.soleField "SeaWatches" "today"), (Jvm.Cond.superclass "SeaWatches" "java/lang/Object"), Cond.methodLink R_law 13 yX8_days, Cond.instanceMethod yX8_days, Cond.selects RX8 yX8_days yX8_days, Cond.code yX8_days cX8_days 2 (some .int), Cond.methodLink R_law 18 yX8_warmth]
def ch_2_8 : List Cond := [Cond.instanceMethod yX8_warmth, Cond.selects RX8 yX8_warmth yX8_warmth, Cond.code yX8_warmth cX8_warmth 3 (some .int), Cond.methodLink RX8 84 yX8_isDay, Cond.static yX8_isDay, Cond.code yX8_isDay cX8_isDay 1 (some .boolean), Cond.methodLink RX8 88 yX8_isWithin, Cond.static yX8_isWithin, Cond.code yX8_isWithin cX8_isWithin 2 (some .boolean), Cond.methodLink R_law 23 yX8_put]
def ch_2_9 : List Cond := [Cond.instanceMethod yX8_put, Cond.selects RX8 yX8_put yX8_put, Cond.code yX8_put cX8_put 4 (some .int), Cond.methodLink RX8 92 yX8_isPlace, Cond.static yX8_isPlace, Cond.code yX8_isPlace cX8_isPlace 1 (some .boolean), Cond.methodLink RX8 95 yX8_fitsKind, Cond.static yX8_fitsKind, Cond.code yX8_fitsKind cX8_fitsKind 2 (some .boolean), Cond.methodLink RX8 98 yX8_bringWatch]
def ch_2_10 : List Cond := [(Jvm.Cond.privateMethod ({ cls := "SeaWatches", name := "bringWatch", desc := "(I)V" } : Jvm.MethodName)), Cond.instanceMethod yX8_bringWatch, Cond.code yX8_bringWatch cX8_bringWatch 2 none, Cond.instantiable RX7 4, (Jvm.Cond.methodLinkNest "SeaWatches" (301 : Nat) ({ cls := "SeaWatches$Watch", name := "<init>", desc := "()V" } : Jvm.MethodName) "SeaWatches"), Cond.instanceMethod yX7_init, Cond.code yX7_init cX7_init 1 none, Cond.methodLink RX7 3 objectInit, Cond.fieldLink RX7 9 "SeaWatches$Watch" "tolds" "[I", Cond.fieldLink RX7 15 "SeaWatches$Watch" "sources" "[I"]
def ch_2_11 : List Cond := [Cond.fieldLink RX7 18 "SeaWatches$Watch" "marks" "[I", Cond.fieldLink RX7 21 "SeaWatches$Watch" "holders" "[I", (Jvm.Cond.laysFinal "SeaWatches$Watch" "SeaWatches$Watch" "tolds" "[I"), (Jvm.Cond.soleField "SeaWatches$Watch" "tolds"), (Jvm.Cond.laysFinal "SeaWatches$Watch" "SeaWatches$Watch" "sources" "[I"), (Jvm.Cond.soleField "SeaWatches$Watch" "sources"), (Jvm.Cond.laysFinal "SeaWatches$Watch" "SeaWatches$Watch" "marks" "[I"), (Jvm.Cond.soleField "SeaWatches$Watch" "marks"), (Jvm.Cond.laysFinal "SeaWatches$Watch" "SeaWatches$Watch" "holders" "[I"), (Jvm.Cond.soleField "SeaWatches$Watch" "holders")]
def ch_2_12 : List Cond := [(Jvm.Cond.superclass "SeaWatches$Watch" "java/lang/Object"), Cond.methodLink RX8 302 yX7_becomeNew, Cond.instanceMethod yX7_becomeNew, Cond.selects RX7 yX7_becomeNew yX7_becomeNew, Cond.code yX7_becomeNew cX7_becomeNew 2 none, Cond.methodLink R_law 28 yX8_take, Cond.instanceMethod yX8_take, Cond.selects RX8 yX8_take yX8_take, Cond.code yX8_take cX8_take 3 (some .int), Cond.methodLink RX8 102 yX8_watchAt]
def ch_2_13 : List Cond := [(Jvm.Cond.privateMethod ({ cls := "SeaWatches", name := "watchAt", desc := "(I)LSeaWatches$Watch;" } : Jvm.MethodName)), Cond.instanceMethod yX8_watchAt, Cond.code yX8_watchAt cX8_watchAt 2 (some (.object "SeaWatches$Watch")), Cond.methodLink RX8 106 yX7_holderOn, Cond.instanceMethod yX7_holderOn, Cond.selects RX7 yX7_holderOn yX7_holderOn, Cond.code yX7_holderOn cX7_holderOn 2 (some .int), (Jvm.Cond.methodLinkNest "SeaWatches$Watch" (24 : Nat) ({ cls := "SeaWatches", name := "isDay", desc := "(I)Z" } : Jvm.MethodName) "SeaWatches"), Cond.methodLink R_law 32 yX8_holds, Cond.instanceMethod yX8_holds]
def ch_2_14 : List Cond := [Cond.selects RX8 yX8_holds yX8_holds, Cond.code yX8_holds cX8_holds 2 (some .int), Cond.methodLink R_law 36 yX8_read, Cond.instanceMethod yX8_read, Cond.selects RX8 yX8_read yX8_read, Cond.code yX8_read cX8_read 2 (some .int), Cond.constant RX8 110 (-2000000000), Cond.methodLink R_law 40 yX8_compare, Cond.instanceMethod yX8_compare, Cond.selects RX8 yX8_compare yX8_compare]
def ch_2_15 : List Cond := [Cond.code yX8_compare cX8_compare 6 (some .int), Cond.methodLink RX8 111 yX8_isPast, (Jvm.Cond.privateMethod ({ cls := "SeaWatches", name := "isPast", desc := "(I)Z" } : Jvm.MethodName)), Cond.instanceMethod yX8_isPast, Cond.code yX8_isPast cX8_isPast 2 (some .boolean), Cond.constant RX8 114 100000, Cond.methodLink RX8 115 yX8_lackAt, (Jvm.Cond.privateMethod ({ cls := "SeaWatches", name := "lackAt", desc := "(I)I" } : Jvm.MethodName)), Cond.instanceMethod yX8_lackAt, Cond.code yX8_lackAt cX8_lackAt 2 (some .int)]
def ch_2_16 : List Cond := [Cond.methodLink RX8 118 yX7_isCompared, Cond.instanceMethod yX7_isCompared, Cond.selects RX7 yX7_isCompared yX7_isCompared, Cond.code yX7_isCompared cX7_isCompared 2 (some .boolean), Cond.methodLink RX8 121 yX7_tell, Cond.instanceMethod yX7_tell, Cond.selects RX7 yX7_tell yX7_tell, Cond.code yX7_tell cX7_tell 4 none, Cond.methodLink R_law 45 yX8_error, Cond.instanceMethod yX8_error]
def ch_2_17 : List Cond := [Cond.selects RX8 yX8_error yX8_error, Cond.code yX8_error cX8_error 5 (some .int), Cond.methodLink RX8 125 yX8_isKnowledge, Cond.static yX8_isKnowledge, Cond.code yX8_isKnowledge cX8_isKnowledge 1 (some .boolean), Cond.methodLink RX8 128 yX7_errorAsKnown, Cond.instanceMethod yX7_errorAsKnown, Cond.selects RX7 yX7_errorAsKnown yX7_errorAsKnown, Cond.code yX7_errorAsKnown cX7_errorAsKnown 4 (some .int), Cond.methodLink RX7 28 yX7_isCompared]
def ch_2_18 : List Cond := [Cond.methodLink RX7 31 yX2_sumFor, Cond.instanceMethod yX2_sumFor, Cond.selects RX2 yX2_sumFor yX2_sumFor, Cond.code yX2_sumFor cX2_sumFor 6 (some .int), Cond.constant RX7 37 (-2000000000), Cond.methodLink R_law 49 yX8_rate, Cond.instanceMethod yX8_rate, Cond.selects RX8 yX8_rate yX8_rate, Cond.code yX8_rate cX8_rate 5 (some .int), Cond.methodLink RX8 132 yX7_rateAsKnown]
def ch_2_19 : List Cond := [Cond.instanceMethod yX7_rateAsKnown, Cond.selects RX7 yX7_rateAsKnown yX7_rateAsKnown, Cond.code yX7_rateAsKnown cX7_rateAsKnown 4 (some .int), Cond.methodLink RX7 38 yX7_errorAsKnown, Cond.methodLink RX7 42 yX7_rateBetween, Cond.instanceMethod yX7_rateBetween, Cond.selects RX7 yX7_rateBetween yX7_rateBetween, Cond.code yX7_rateBetween cX7_rateBetween 4 (some .int), (Jvm.Cond.methodLinkNest "SeaWatches$Watch" (45 : Nat) ({ cls := "SeaWatches", name := "isWithin", desc := "(II)Z" } : Jvm.MethodName) "SeaWatches"), Cond.methodLink RX7 49 yX7_isMarked]
def ch_2_20 : List Cond := [Cond.instanceMethod yX7_isMarked, Cond.selects RX7 yX7_isMarked yX7_isMarked, Cond.code yX7_isMarked cX7_isMarked 3 (some .boolean), Cond.methodLink R_law 53 yX8_repair, Cond.instanceMethod yX8_repair, Cond.selects RX8 yX8_repair yX8_repair, Cond.code yX8_repair cX8_repair 3 (some .int), Cond.methodLink RX8 135 yX8_markOn, (Jvm.Cond.privateMethod ({ cls := "SeaWatches", name := "markOn", desc := "(III)I" } : Jvm.MethodName)), Cond.instanceMethod yX8_markOn]
def ch_2_21 : List Cond := [Cond.code yX8_markOn cX8_markOn 5 (some .int), Cond.methodLink RX8 305 yX7_addMark, Cond.instanceMethod yX7_addMark, Cond.selects RX7 yX7_addMark yX7_addMark, Cond.code yX7_addMark cX7_addMark 3 (some .boolean), Cond.methodLink R_law 57 yX8_late, Cond.instanceMethod yX8_late, Cond.selects RX8 yX8_late yX8_late, Cond.code yX8_late cX8_late 3 (some .int), Cond.methodLink R_law 61 yX8_age]
def ch_2_22 : List Cond := [Cond.instanceMethod yX8_age, Cond.selects RX8 yX8_age yX8_age, Cond.code yX8_age cX8_age 4 (some .int), Cond.methodLink RX8 139 yX7_ageOn, Cond.instanceMethod yX7_ageOn, Cond.selects RX7 yX7_ageOn yX7_ageOn, Cond.code yX7_ageOn cX7_ageOn 3 (some .int), Cond.methodLink R_law 65 yX8_off, Cond.instanceMethod yX8_off, Cond.selects RX8 yX8_off yX8_off]
def ch_2_23 : List Cond := [Cond.code yX8_off cX8_off 5 (some .int), Cond.methodLink RX8 145 yX2_add, Cond.instanceMethod yX2_add, Cond.selects RX2 yX2_add yX2_add, Cond.code yX2_add cX2_add 6 none, Cond.methodLink R_law 69 yX8_changed, Cond.instanceMethod yX8_changed, Cond.selects RX8 yX8_changed yX8_changed, Cond.code yX8_changed cX8_changed 8 (some .int), Cond.methodLink RX8 149 yX8_isStretch]
set_option maxRecDepth 100000 in
theorem tq_2 : tables_1_2 = ch_2_0 ++ (ch_2_1 ++ (ch_2_2 ++ (ch_2_3 ++ (ch_2_4 ++ (ch_2_5 ++ (ch_2_6 ++ (ch_2_7 ++ (ch_2_8 ++ (ch_2_9 ++ (ch_2_10 ++ (ch_2_11 ++ (ch_2_12 ++ (ch_2_13 ++ (ch_2_14 ++ (ch_2_15 ++ (ch_2_16 ++ (ch_2_17 ++ (ch_2_18 ++ (ch_2_19 ++ (ch_2_20 ++ (ch_2_21 ++ (ch_2_22 ++ (ch_2_23))))))))))))))))))))))) := rfl
theorem cm_2_0 {w : Cond} (h : w ∈ ch_2_0) (hg : goodWord w = true) : w ∈ tb := List.mem_filter.mpr ⟨List.mem_append_right _ (show w ∈ tables_1 from List.mem_append_right _ (List.mem_append_left _ (show w ∈ tables_1_2 from by rw [tq_2]; exact List.mem_append_left _ h))), hg⟩
theorem cm_2_1 {w : Cond} (h : w ∈ ch_2_1) (hg : goodWord w = true) : w ∈ tb := List.mem_filter.mpr ⟨List.mem_append_right _ (show w ∈ tables_1 from List.mem_append_right _ (List.mem_append_left _ (show w ∈ tables_1_2 from by rw [tq_2]; exact List.mem_append_right _ (List.mem_append_left _ h)))), hg⟩
theorem cm_2_2 {w : Cond} (h : w ∈ ch_2_2) (hg : goodWord w = true) : w ∈ tb := List.mem_filter.mpr ⟨List.mem_append_right _ (show w ∈ tables_1 from List.mem_append_right _ (List.mem_append_left _ (show w ∈ tables_1_2 from by rw [tq_2]; exact List.mem_append_right _ (List.mem_append_right _ (List.mem_append_left _ h))))), hg⟩
theorem cm_2_3 {w : Cond} (h : w ∈ ch_2_3) (hg : goodWord w = true) : w ∈ tb := List.mem_filter.mpr ⟨List.mem_append_right _ (show w ∈ tables_1 from List.mem_append_right _ (List.mem_append_left _ (show w ∈ tables_1_2 from by rw [tq_2]; exact List.mem_append_right _ (List.mem_append_right _ (List.mem_append_right _ (List.mem_append_left _ h)))))), hg⟩
theorem cm_2_4 {w : Cond} (h : w ∈ ch_2_4) (hg : goodWord w = true) : w ∈ tb := List.mem_filter.mpr ⟨List.mem_append_right _ (show w ∈ tables_1 from List.mem_append_right _ (List.mem_append_left _ (show w ∈ tables_1_2 from by rw [tq_2]; exact List.mem_append_right _ (List.mem_append_right _ (List.mem_append_right _ (List.mem_append_right _ (List.mem_append_left _ h))))))), hg⟩
theorem cm_2_5 {w : Cond} (h : w ∈ ch_2_5) (hg : goodWord w = true) : w ∈ tb := List.mem_filter.mpr ⟨List.mem_append_right _ (show w ∈ tables_1 from List.mem_append_right _ (List.mem_append_left _ (show w ∈ tables_1_2 from by rw [tq_2]; exact List.mem_append_right _ (List.mem_append_right _ (List.mem_append_right _ (List.mem_append_right _ (List.mem_append_right _ (List.mem_append_left _ h)))))))), hg⟩
theorem cm_2_6 {w : Cond} (h : w ∈ ch_2_6) (hg : goodWord w = true) : w ∈ tb := List.mem_filter.mpr ⟨List.mem_append_right _ (show w ∈ tables_1 from List.mem_append_right _ (List.mem_append_left _ (show w ∈ tables_1_2 from by rw [tq_2]; exact List.mem_append_right _ (List.mem_append_right _ (List.mem_append_right _ (List.mem_append_right _ (List.mem_append_right _ (List.mem_append_right _ (List.mem_append_left _ h))))))))), hg⟩
theorem cm_2_7 {w : Cond} (h : w ∈ ch_2_7) (hg : goodWord w = true) : w ∈ tb := List.mem_filter.mpr ⟨List.mem_append_right _ (show w ∈ tables_1 from List.mem_append_right _ (List.mem_append_left _ (show w ∈ tables_1_2 from by rw [tq_2]; exact List.mem_append_right _ (List.mem_append_right _ (List.mem_append_right _ (List.mem_append_right _ (List.mem_append_right _ (List.mem_append_right _ (List.mem_append_right _ (List.mem_append_left _ h)))))))))), hg⟩
theorem cm_2_8 {w : Cond} (h : w ∈ ch_2_8) (hg : goodWord w = true) : w ∈ tb := List.mem_filter.mpr ⟨List.mem_append_right _ (show w ∈ tables_1 from List.mem_append_right _ (List.mem_append_left _ (show w ∈ tables_1_2 from by rw [tq_2]; exact List.mem_append_right _ (List.mem_append_right _ (List.mem_append_right _ (List.mem_append_right _ (List.mem_append_right _ (List.mem_append_right _ (List.mem_append_right _ (List.mem_append_right _ (List.mem_append_left _ h))))))))))), hg⟩
theorem cm_2_9 {w : Cond} (h : w ∈ ch_2_9) (hg : goodWord w = true) : w ∈ tb := List.mem_filter.mpr ⟨List.mem_append_right _ (show w ∈ tables_1 from List.mem_append_right _ (List.mem_append_left _ (show w ∈ tables_1_2 from by rw [tq_2]; exact List.mem_append_right _ (List.mem_append_right _ (List.mem_append_right _ (List.mem_append_right _ (List.mem_append_right _ (List.mem_append_right _ (List.mem_append_right _ (List.mem_append_right _ (List.mem_append_right _ (List.mem_append_left _ h)))))))))))), hg⟩
theorem cm_2_10 {w : Cond} (h : w ∈ ch_2_10) (hg : goodWord w = true) : w ∈ tb := List.mem_filter.mpr ⟨List.mem_append_right _ (show w ∈ tables_1 from List.mem_append_right _ (List.mem_append_left _ (show w ∈ tables_1_2 from by rw [tq_2]; exact List.mem_append_right _ (List.mem_append_right _ (List.mem_append_right _ (List.mem_append_right _ (List.mem_append_right _ (List.mem_append_right _ (List.mem_append_right _ (List.mem_append_right _ (List.mem_append_right _ (List.mem_append_right _ (List.mem_append_left _ h))))))))))))), hg⟩
theorem cm_2_11 {w : Cond} (h : w ∈ ch_2_11) (hg : goodWord w = true) : w ∈ tb := List.mem_filter.mpr ⟨List.mem_append_right _ (show w ∈ tables_1 from List.mem_append_right _ (List.mem_append_left _ (show w ∈ tables_1_2 from by rw [tq_2]; exact List.mem_append_right _ (List.mem_append_right _ (List.mem_append_right _ (List.mem_append_right _ (List.mem_append_right _ (List.mem_append_right _ (List.mem_append_right _ (List.mem_append_right _ (List.mem_append_right _ (List.mem_append_right _ (List.mem_append_right _ (List.mem_append_left _ h)))))))))))))), hg⟩
theorem cm_2_12 {w : Cond} (h : w ∈ ch_2_12) (hg : goodWord w = true) : w ∈ tb := List.mem_filter.mpr ⟨List.mem_append_right _ (show w ∈ tables_1 from List.mem_append_right _ (List.mem_append_left _ (show w ∈ tables_1_2 from by rw [tq_2]; exact List.mem_append_right _ (List.mem_append_right _ (List.mem_append_right _ (List.mem_append_right _ (List.mem_append_right _ (List.mem_append_right _ (List.mem_append_right _ (List.mem_append_right _ (List.mem_append_right _ (List.mem_append_right _ (List.mem_append_right _ (List.mem_append_right _ (List.mem_append_left _ h))))))))))))))), hg⟩
theorem cm_2_13 {w : Cond} (h : w ∈ ch_2_13) (hg : goodWord w = true) : w ∈ tb := List.mem_filter.mpr ⟨List.mem_append_right _ (show w ∈ tables_1 from List.mem_append_right _ (List.mem_append_left _ (show w ∈ tables_1_2 from by rw [tq_2]; exact List.mem_append_right _ (List.mem_append_right _ (List.mem_append_right _ (List.mem_append_right _ (List.mem_append_right _ (List.mem_append_right _ (List.mem_append_right _ (List.mem_append_right _ (List.mem_append_right _ (List.mem_append_right _ (List.mem_append_right _ (List.mem_append_right _ (List.mem_append_right _ (List.mem_append_left _ h)))))))))))))))), hg⟩
theorem cm_2_14 {w : Cond} (h : w ∈ ch_2_14) (hg : goodWord w = true) : w ∈ tb := List.mem_filter.mpr ⟨List.mem_append_right _ (show w ∈ tables_1 from List.mem_append_right _ (List.mem_append_left _ (show w ∈ tables_1_2 from by rw [tq_2]; exact List.mem_append_right _ (List.mem_append_right _ (List.mem_append_right _ (List.mem_append_right _ (List.mem_append_right _ (List.mem_append_right _ (List.mem_append_right _ (List.mem_append_right _ (List.mem_append_right _ (List.mem_append_right _ (List.mem_append_right _ (List.mem_append_right _ (List.mem_append_right _ (List.mem_append_right _ (List.mem_append_left _ h))))))))))))))))), hg⟩
theorem cm_2_15 {w : Cond} (h : w ∈ ch_2_15) (hg : goodWord w = true) : w ∈ tb := List.mem_filter.mpr ⟨List.mem_append_right _ (show w ∈ tables_1 from List.mem_append_right _ (List.mem_append_left _ (show w ∈ tables_1_2 from by rw [tq_2]; exact List.mem_append_right _ (List.mem_append_right _ (List.mem_append_right _ (List.mem_append_right _ (List.mem_append_right _ (List.mem_append_right _ (List.mem_append_right _ (List.mem_append_right _ (List.mem_append_right _ (List.mem_append_right _ (List.mem_append_right _ (List.mem_append_right _ (List.mem_append_right _ (List.mem_append_right _ (List.mem_append_right _ (List.mem_append_left _ h)))))))))))))))))), hg⟩
theorem cm_2_16 {w : Cond} (h : w ∈ ch_2_16) (hg : goodWord w = true) : w ∈ tb := List.mem_filter.mpr ⟨List.mem_append_right _ (show w ∈ tables_1 from List.mem_append_right _ (List.mem_append_left _ (show w ∈ tables_1_2 from by rw [tq_2]; exact List.mem_append_right _ (List.mem_append_right _ (List.mem_append_right _ (List.mem_append_right _ (List.mem_append_right _ (List.mem_append_right _ (List.mem_append_right _ (List.mem_append_right _ (List.mem_append_right _ (List.mem_append_right _ (List.mem_append_right _ (List.mem_append_right _ (List.mem_append_right _ (List.mem_append_right _ (List.mem_append_right _ (List.mem_append_right _ (List.mem_append_left _ h))))))))))))))))))), hg⟩
theorem cm_2_17 {w : Cond} (h : w ∈ ch_2_17) (hg : goodWord w = true) : w ∈ tb := List.mem_filter.mpr ⟨List.mem_append_right _ (show w ∈ tables_1 from List.mem_append_right _ (List.mem_append_left _ (show w ∈ tables_1_2 from by rw [tq_2]; exact List.mem_append_right _ (List.mem_append_right _ (List.mem_append_right _ (List.mem_append_right _ (List.mem_append_right _ (List.mem_append_right _ (List.mem_append_right _ (List.mem_append_right _ (List.mem_append_right _ (List.mem_append_right _ (List.mem_append_right _ (List.mem_append_right _ (List.mem_append_right _ (List.mem_append_right _ (List.mem_append_right _ (List.mem_append_right _ (List.mem_append_right _ (List.mem_append_left _ h)))))))))))))))))))), hg⟩
theorem cm_2_18 {w : Cond} (h : w ∈ ch_2_18) (hg : goodWord w = true) : w ∈ tb := List.mem_filter.mpr ⟨List.mem_append_right _ (show w ∈ tables_1 from List.mem_append_right _ (List.mem_append_left _ (show w ∈ tables_1_2 from by rw [tq_2]; exact List.mem_append_right _ (List.mem_append_right _ (List.mem_append_right _ (List.mem_append_right _ (List.mem_append_right _ (List.mem_append_right _ (List.mem_append_right _ (List.mem_append_right _ (List.mem_append_right _ (List.mem_append_right _ (List.mem_append_right _ (List.mem_append_right _ (List.mem_append_right _ (List.mem_append_right _ (List.mem_append_right _ (List.mem_append_right _ (List.mem_append_right _ (List.mem_append_right _ (List.mem_append_left _ h))))))))))))))))))))), hg⟩
theorem cm_2_19 {w : Cond} (h : w ∈ ch_2_19) (hg : goodWord w = true) : w ∈ tb := List.mem_filter.mpr ⟨List.mem_append_right _ (show w ∈ tables_1 from List.mem_append_right _ (List.mem_append_left _ (show w ∈ tables_1_2 from by rw [tq_2]; exact List.mem_append_right _ (List.mem_append_right _ (List.mem_append_right _ (List.mem_append_right _ (List.mem_append_right _ (List.mem_append_right _ (List.mem_append_right _ (List.mem_append_right _ (List.mem_append_right _ (List.mem_append_right _ (List.mem_append_right _ (List.mem_append_right _ (List.mem_append_right _ (List.mem_append_right _ (List.mem_append_right _ (List.mem_append_right _ (List.mem_append_right _ (List.mem_append_right _ (List.mem_append_right _ (List.mem_append_left _ h)))))))))))))))))))))), hg⟩
theorem cm_2_20 {w : Cond} (h : w ∈ ch_2_20) (hg : goodWord w = true) : w ∈ tb := List.mem_filter.mpr ⟨List.mem_append_right _ (show w ∈ tables_1 from List.mem_append_right _ (List.mem_append_left _ (show w ∈ tables_1_2 from by rw [tq_2]; exact List.mem_append_right _ (List.mem_append_right _ (List.mem_append_right _ (List.mem_append_right _ (List.mem_append_right _ (List.mem_append_right _ (List.mem_append_right _ (List.mem_append_right _ (List.mem_append_right _ (List.mem_append_right _ (List.mem_append_right _ (List.mem_append_right _ (List.mem_append_right _ (List.mem_append_right _ (List.mem_append_right _ (List.mem_append_right _ (List.mem_append_right _ (List.mem_append_right _ (List.mem_append_right _ (List.mem_append_right _ (List.mem_append_left _ h))))))))))))))))))))))), hg⟩
theorem cm_2_21 {w : Cond} (h : w ∈ ch_2_21) (hg : goodWord w = true) : w ∈ tb := List.mem_filter.mpr ⟨List.mem_append_right _ (show w ∈ tables_1 from List.mem_append_right _ (List.mem_append_left _ (show w ∈ tables_1_2 from by rw [tq_2]; exact List.mem_append_right _ (List.mem_append_right _ (List.mem_append_right _ (List.mem_append_right _ (List.mem_append_right _ (List.mem_append_right _ (List.mem_append_right _ (List.mem_append_right _ (List.mem_append_right _ (List.mem_append_right _ (List.mem_append_right _ (List.mem_append_right _ (List.mem_append_right _ (List.mem_append_right _ (List.mem_append_right _ (List.mem_append_right _ (List.mem_append_right _ (List.mem_append_right _ (List.mem_append_right _ (List.mem_append_right _ (List.mem_append_right _ (List.mem_append_left _ h)))))))))))))))))))))))), hg⟩
theorem cm_2_22 {w : Cond} (h : w ∈ ch_2_22) (hg : goodWord w = true) : w ∈ tb := List.mem_filter.mpr ⟨List.mem_append_right _ (show w ∈ tables_1 from List.mem_append_right _ (List.mem_append_left _ (show w ∈ tables_1_2 from by rw [tq_2]; exact List.mem_append_right _ (List.mem_append_right _ (List.mem_append_right _ (List.mem_append_right _ (List.mem_append_right _ (List.mem_append_right _ (List.mem_append_right _ (List.mem_append_right _ (List.mem_append_right _ (List.mem_append_right _ (List.mem_append_right _ (List.mem_append_right _ (List.mem_append_right _ (List.mem_append_right _ (List.mem_append_right _ (List.mem_append_right _ (List.mem_append_right _ (List.mem_append_right _ (List.mem_append_right _ (List.mem_append_right _ (List.mem_append_right _ (List.mem_append_right _ (List.mem_append_left _ h))))))))))))))))))))))))), hg⟩
theorem cm_2_23 {w : Cond} (h : w ∈ ch_2_23) (hg : goodWord w = true) : w ∈ tb := List.mem_filter.mpr ⟨List.mem_append_right _ (show w ∈ tables_1 from List.mem_append_right _ (List.mem_append_left _ (show w ∈ tables_1_2 from by rw [tq_2]; exact List.mem_append_right _ (List.mem_append_right _ (List.mem_append_right _ (List.mem_append_right _ (List.mem_append_right _ (List.mem_append_right _ (List.mem_append_right _ (List.mem_append_right _ (List.mem_append_right _ (List.mem_append_right _ (List.mem_append_right _ (List.mem_append_right _ (List.mem_append_right _ (List.mem_append_right _ (List.mem_append_right _ (List.mem_append_right _ (List.mem_append_right _ (List.mem_append_right _ (List.mem_append_right _ (List.mem_append_right _ (List.mem_append_right _ (List.mem_append_right _ (List.mem_append_right _ (h)))))))))))))))))))))))))), hg⟩
def ch_3_0 : List Cond := [Cond.static yX8_isStretch, Cond.code yX8_isStretch cX8_isStretch 2 (some .boolean), Cond.methodLink R_law 73 yX8_law, Cond.instanceMethod yX8_law, Cond.selects RX8 yX8_law yX8_law, Cond.code yX8_law cX8_law 5 (some .int), Cond.methodLink RX8 152 yX8_refusalOfStretch, (Jvm.Cond.privateMethod ({ cls := "SeaWatches", name := "refusalOfStretch", desc := "(III)I" } : Jvm.MethodName)), Cond.instanceMethod yX8_refusalOfStretch, Cond.code yX8_refusalOfStretch cX8_refusalOfStretch 4 (some .int)]
def ch_3_1 : List Cond := [Cond.methodLink RX8 155 yX8_fitLaw, (Jvm.Cond.privateMethod ({ cls := "SeaWatches", name := "fitLaw", desc := "(III)V" } : Jvm.MethodName)), Cond.instanceMethod yX8_fitLaw, Cond.code yX8_fitLaw cX8_fitLaw 8 none, Cond.methodLink RX8 308 yX1_clear, Cond.instanceMethod yX1_clear, Cond.selects RX1 yX1_clear yX1_clear, Cond.code yX1_clear cX1_clear 1 none, Cond.methodLink RX8 172 yX3_gather, Cond.instanceMethod yX3_gather]
def ch_3_2 : List Cond := [Cond.selects RX3 yX3_gather yX3_gather, Cond.code yX3_gather cX3_gather 9 none, Cond.methodLink RX3 25 yX7_errorAsKnown, Cond.methodLink RX3 31 yX7_rateBetween, Cond.constant RX3 35 (-2000000000), Cond.methodLink RX8 315 yX8_warmthFor, (Jvm.Cond.privateMethod ({ cls := "SeaWatches", name := "warmthFor", desc := "(II)I" } : Jvm.MethodName)), Cond.instanceMethod yX8_warmthFor, Cond.code yX8_warmthFor cX8_warmthFor 3 (some .int), Cond.methodLink RX8 321 yX1_add]
def ch_3_3 : List Cond := [Cond.instanceMethod yX1_add, Cond.selects RX1 yX1_add yX1_add, Cond.code yX1_add cX1_add 7 none, Cond.methodLink RX8 324 yX1_solve, Cond.instanceMethod yX1_solve, Cond.selects RX1 yX1_solve yX1_solve, Cond.code yX1_solve cX1_solve 13 none, Cond.methodLink RX1 46 yX1_setLaw, (Jvm.Cond.privateMethod ({ cls := "SeaWatches$Fit", name := "setLaw", desc := "(IJJJ)V" } : Jvm.MethodName)), Cond.instanceMethod yX1_setLaw]
def ch_3_4 : List Cond := [Cond.code yX1_setLaw cX1_setLaw 8 none, Cond.methodLink RX8 158 yX1_size, Cond.instanceMethod yX1_size, Cond.selects RX1 yX1_size yX1_size, Cond.code yX1_size cX1_size 1 (some .int), Cond.methodLink R_law 77 yX8_terms, Cond.instanceMethod yX8_terms, Cond.selects RX8 yX8_terms yX8_terms, Cond.code yX8_terms cX8_terms 5 (some .int), Cond.methodLink RX8 161 yX1_form]
def ch_3_5 : List Cond := [Cond.instanceMethod yX1_form, Cond.selects RX1 yX1_form yX1_form, Cond.code yX1_form cX1_form 1 (some .int), Cond.methodLink R_law 81 yX8_foretold, Cond.instanceMethod yX8_foretold, Cond.selects RX8 yX8_foretold yX8_foretold, Cond.code yX8_foretold cX8_foretold 8 (some .int), Cond.methodLink RX8 164 yX1_thousandfold, Cond.instanceMethod yX1_thousandfold, Cond.selects RX1 yX1_thousandfold yX1_thousandfold]
def ch_3_6 : List Cond := [Cond.code yX1_thousandfold cX1_thousandfold 3 (some .long), Cond.constantLong RX1 62 1000, Cond.methodLink RX1 64 yX1_addProduct, (Jvm.Cond.privateMethod ({ cls := "SeaWatches$Fit", name := "addProduct", desc := "(JJ)V" } : Jvm.MethodName)), Cond.instanceMethod yX1_addProduct, Cond.code yX1_addProduct cX1_addProduct 18 none, (Jvm.Cond.methodLink "SeaWatches$Fit" (68 : Nat) ({ cls := "java/lang/Math", name := "abs", desc := "(J)J" } : Jvm.MethodName)), (Jvm.Cond.static ({ cls := "java/lang/Math", name := "abs", desc := "(J)J" } : Jvm.MethodName)), (Jvm.Cond.code ({ cls := "java/lang/Math", name := "abs", desc := "(J)J" } : Jvm.MethodName) prog_12_method_61_code (2 : Nat) (Option.some Jvm.ClassFile.FieldType.long)), (Jvm.Cond.methodLink "SeaWatches$Fit" (74 : Nat) ({ cls := "java/lang/Math", name := "floorMod", desc := "(JJ)J" } : Jvm.MethodName))]
def ch_3_7 : List Cond := [(Jvm.Cond.static ({ cls := "java/lang/Math", name := "floorMod", desc := "(JJ)J" } : Jvm.MethodName)), (Jvm.Cond.code ({ cls := "java/lang/Math", name := "floorMod", desc := "(JJ)J" } : Jvm.MethodName) prog_12_method_52_code (6 : Nat) (Option.some Jvm.ClassFile.FieldType.long)), (Jvm.Cond.methodLink "SeaWatches$Fit" (78 : Nat) ({ cls := "java/lang/Math", name := "floorDiv", desc := "(JJ)J" } : Jvm.MethodName)), (Jvm.Cond.static ({ cls := "java/lang/Math", name := "floorDiv", desc := "(JJ)J" } : Jvm.MethodName)), (Jvm.Cond.code ({ cls := "java/lang/Math", name := "floorDiv", desc := "(JJ)J" } : Jvm.MethodName) prog_12_method_49_code (6 : Nat) (Option.some Jvm.ClassFile.FieldType.long)), Cond.constantLong RX1 81 2, Cond.constantLong RX8 168 2000000000, Cond.constantLong RX8 170 (-2000000000), Cond.methodLink R_law 86 yX8_jump, Cond.instanceMethod yX8_jump]
def ch_3_8 : List Cond := [Cond.selects RX8 yX8_jump yX8_jump, Cond.code yX8_jump cX8_jump 6 (some .int), Cond.methodLink RX8 176 yX3_dayFarthestOff, Cond.instanceMethod yX3_dayFarthestOff, Cond.selects RX3 yX3_dayFarthestOff yX3_dayFarthestOff, Cond.code yX3_dayFarthestOff cX3_dayFarthestOff 7 (some .int), Cond.methodLink RX3 49 yX3_middleOne, (Jvm.Cond.privateMethod ({ cls := "SeaWatches$Rates", name := "middleOne", desc := "()I" } : Jvm.MethodName)), Cond.instanceMethod yX3_middleOne, Cond.code yX3_middleOne cX3_middleOne 3 (some .int)]
def ch_3_9 : List Cond := [(Jvm.Cond.methodLink "SeaWatches$Rates" (45 : Nat) ({ cls := "java/lang/Math", name := "abs", desc := "(I)I" } : Jvm.MethodName)), (Jvm.Cond.static ({ cls := "java/lang/Math", name := "abs", desc := "(I)I" } : Jvm.MethodName)), (Jvm.Cond.code ({ cls := "java/lang/Math", name := "abs", desc := "(I)I" } : Jvm.MethodName) prog_12_method_59_code (1 : Nat) (Option.some Jvm.ClassFile.FieldType.int)), Cond.methodLink R_law 90 yX8_feed, Cond.instanceMethod yX8_feed, Cond.selects RX8 yX8_feed yX8_feed, Cond.code yX8_feed cX8_feed 4 (some .int), Cond.methodLink RX8 180 yX6_add, Cond.instanceMethod yX6_add, Cond.selects RX6 yX6_add yX6_add]
def ch_3_10 : List Cond := [Cond.code yX6_add cX6_add 2 none, Cond.methodLink R_law 94 yX8_rule, Cond.instanceMethod yX8_rule, Cond.selects RX8 yX8_rule yX8_rule, Cond.code yX8_rule cX8_rule 3 (some .int), (Jvm.Cond.stringRef "SeaWatches" (182 : Nat) "or and not abs days least most span gaps jump drift sum warm"), (Jvm.Cond.stringRef "SeaWatches" (184 : Nat) "or and not abs off doubt days which"), Cond.methodLink RX8 186 yX6_readAsRule, Cond.instanceMethod yX6_readAsRule, Cond.selects RX6 yX6_readAsRule yX6_readAsRule]
def ch_3_11 : List Cond := [Cond.code yX6_readAsRule cX6_readAsRule 3 (some .int), Cond.methodLink RX6 45 yX6_goOn, (Jvm.Cond.privateMethod ({ cls := "SeaWatches$Tape", name := "goOn", desc := "()V" } : Jvm.MethodName)), Cond.instanceMethod yX6_goOn, Cond.code yX6_goOn cX6_goOn 1 none, Cond.methodLink RX6 77 yX6_isLetter, Cond.static yX6_isLetter, Cond.code yX6_isLetter cX6_isLetter 1 (some .boolean), Cond.methodLink RX6 80 yX6_takeLetters, (Jvm.Cond.privateMethod ({ cls := "SeaWatches$Tape", name := "takeLetters", desc := "()V" } : Jvm.MethodName))]
def ch_3_12 : List Cond := [Cond.instanceMethod yX6_takeLetters, Cond.code yX6_takeLetters cX6_takeLetters 2 none, Cond.methodLink RX6 92 yX6_placeAmongWords, (Jvm.Cond.privateMethod ({ cls := "SeaWatches$Tape", name := "placeAmongWords", desc := "()I" } : Jvm.MethodName)), Cond.instanceMethod yX6_placeAmongWords, Cond.code yX6_placeAmongWords cX6_placeAmongWords 4 (some .int), (Jvm.Cond.methodLink "SeaWatches$Tape" (96 : Nat) ({ cls := "java/lang/String", name := "length", desc := "()I" } : Jvm.MethodName)), (Jvm.Cond.instanceMethod ({ cls := "java/lang/String", name := "length", desc := "()I" } : Jvm.MethodName)), (Jvm.Cond.selects "java/lang/String" ({ cls := "java/lang/String", name := "length", desc := "()I" } : Jvm.MethodName) ({ cls := "java/lang/String", name := "length", desc := "()I" } : Jvm.MethodName)), (Jvm.Cond.code ({ cls := "java/lang/String", name := "length", desc := "()I" } : Jvm.MethodName) prog_13_method_54_code (1 : Nat) (Option.some Jvm.ClassFile.FieldType.int))]
def ch_3_13 : List Cond := [(Jvm.Cond.methodLink "java/lang/String" (335 : Nat) ({ cls := "java/lang/String", name := "coder", desc := "()B" } : Jvm.MethodName)), (Jvm.Cond.instanceMethod ({ cls := "java/lang/String", name := "coder", desc := "()B" } : Jvm.MethodName)), (Jvm.Cond.selects "java/lang/String" ({ cls := "java/lang/String", name := "coder", desc := "()B" } : Jvm.MethodName) ({ cls := "java/lang/String", name := "coder", desc := "()B" } : Jvm.MethodName)), (Jvm.Cond.code ({ cls := "java/lang/String", name := "coder", desc := "()B" } : Jvm.MethodName) prog_13_method_152_code (1 : Nat) (Option.some Jvm.ClassFile.FieldType.byte)), Cond.fieldLink "java/lang/String" 38 "java/lang/String" "COMPACT_STRINGS" "Z", (Jvm.Cond.laysStatic "java/lang/String" "COMPACT_STRINGS" "Z"), (Jvm.Cond.methodLink "SeaWatches$Tape" (101 : Nat) ({ cls := "java/lang/String", name := "charAt", desc := "(I)C" } : Jvm.MethodName)), (Jvm.Cond.instanceMethod ({ cls := "java/lang/String", name := "charAt", desc := "(I)C" } : Jvm.MethodName)), (Jvm.Cond.selects "java/lang/String" ({ cls := "java/lang/String", name := "charAt", desc := "(I)C" } : Jvm.MethodName) ({ cls := "java/lang/String", name := "charAt", desc := "(I)C" } : Jvm.MethodName)), (Jvm.Cond.code ({ cls := "java/lang/String", name := "charAt", desc := "(I)C" } : Jvm.MethodName) prog_13_method_56_code (2 : Nat) (Option.some Jvm.ClassFile.FieldType.char))]
def ch_3_14 : List Cond := [(Jvm.Cond.methodLink "java/lang/String" (492 : Nat) ({ cls := "java/lang/String", name := "isLatin1", desc := "()Z" } : Jvm.MethodName)), (Jvm.Cond.instanceMethod ({ cls := "java/lang/String", name := "isLatin1", desc := "()Z" } : Jvm.MethodName)), (Jvm.Cond.selects "java/lang/String" ({ cls := "java/lang/String", name := "isLatin1", desc := "()Z" } : Jvm.MethodName) ({ cls := "java/lang/String", name := "isLatin1", desc := "()Z" } : Jvm.MethodName)), (Jvm.Cond.code ({ cls := "java/lang/String", name := "isLatin1", desc := "()Z" } : Jvm.MethodName) prog_13_method_154_code (1 : Nat) (Option.some Jvm.ClassFile.FieldType.boolean)), (Jvm.Cond.methodLink "java/lang/String" (495 : Nat) ({ cls := "java/lang/StringLatin1", name := "charAt", desc := "([BI)C" } : Jvm.MethodName)), (Jvm.Cond.static ({ cls := "java/lang/StringLatin1", name := "charAt", desc := "([BI)C" } : Jvm.MethodName)), (Jvm.Cond.code ({ cls := "java/lang/StringLatin1", name := "charAt", desc := "([BI)C" } : Jvm.MethodName) prog_14_method_2_code (2 : Nat) (Option.some Jvm.ClassFile.FieldType.char)), (Jvm.Cond.methodLink "java/lang/StringLatin1" (9 : Nat) ({ cls := "java/lang/String", name := "checkIndex", desc := "(II)V" } : Jvm.MethodName)), (Jvm.Cond.static ({ cls := "java/lang/String", name := "checkIndex", desc := "(II)V" } : Jvm.MethodName)), (Jvm.Cond.code ({ cls := "java/lang/String", name := "checkIndex", desc := "(II)V" } : Jvm.MethodName) prog_13_method_155_code (2 : Nat) (Option.none : Option Jvm.ClassFile.FieldType))]
def ch_3_15 : List Cond := [Cond.fieldLink "java/lang/String" 1053 "jdk/internal/util/Preconditions" "SIOOBE_FORMATTER" "Ljava/util/function/BiFunction;", (Jvm.Cond.laysStatic "jdk/internal/util/Preconditions" "SIOOBE_FORMATTER" "Ljava/util/function/BiFunction;"), (Jvm.Cond.methodLink "java/lang/String" (1059 : Nat) ({ cls := "jdk/internal/util/Preconditions", name := "checkIndex", desc := "(IILjava/util/function/BiFunction;)I" } : Jvm.MethodName)), (Jvm.Cond.static ({ cls := "jdk/internal/util/Preconditions", name := "checkIndex", desc := "(IILjava/util/function/BiFunction;)I" } : Jvm.MethodName)), (Jvm.Cond.code ({ cls := "jdk/internal/util/Preconditions", name := "checkIndex", desc := "(IILjava/util/function/BiFunction;)I" } : Jvm.MethodName) prog_16_method_11_code (3 : Nat) (Option.some Jvm.ClassFile.FieldType.int)), (Jvm.Cond.methodLink "java/lang/String" (498 : Nat) ({ cls := "java/lang/StringUTF16", name := "charAt", desc := "([BI)C" } : Jvm.MethodName)), (Jvm.Cond.static ({ cls := "java/lang/StringUTF16", name := "charAt", desc := "([BI)C" } : Jvm.MethodName)), (Jvm.Cond.code ({ cls := "java/lang/StringUTF16", name := "charAt", desc := "([BI)C" } : Jvm.MethodName) prog_15_method_83_code (2 : Nat) (Option.some Jvm.ClassFile.FieldType.char)), (Jvm.Cond.methodLink "java/lang/StringUTF16" (67 : Nat) ({ cls := "java/lang/StringUTF16", name := "checkIndex", desc := "(I[B)V" } : Jvm.MethodName)), (Jvm.Cond.static ({ cls := "java/lang/StringUTF16", name := "checkIndex", desc := "(I[B)V" } : Jvm.MethodName))]
def ch_3_16 : List Cond := [(Jvm.Cond.code ({ cls := "java/lang/StringUTF16", name := "checkIndex", desc := "(I[B)V" } : Jvm.MethodName) prog_15_method_91_code (2 : Nat) (Option.none : Option Jvm.ClassFile.FieldType)), (Jvm.Cond.methodLink "java/lang/StringUTF16" (48 : Nat) ({ cls := "java/lang/StringUTF16", name := "length", desc := "([B)I" } : Jvm.MethodName)), (Jvm.Cond.static ({ cls := "java/lang/StringUTF16", name := "length", desc := "([B)I" } : Jvm.MethodName)), (Jvm.Cond.code ({ cls := "java/lang/StringUTF16", name := "length", desc := "([B)I" } : Jvm.MethodName) prog_15_method_6_code (1 : Nat) (Option.some Jvm.ClassFile.FieldType.int)), (Jvm.Cond.methodLink "java/lang/StringUTF16" (414 : Nat) ({ cls := "java/lang/String", name := "checkIndex", desc := "(II)V" } : Jvm.MethodName)), (Jvm.Cond.methodLink "java/lang/StringUTF16" (71 : Nat) ({ cls := "java/lang/StringUTF16", name := "getChar", desc := "([BI)C" } : Jvm.MethodName)), (Jvm.Cond.static ({ cls := "java/lang/StringUTF16", name := "getChar", desc := "([BI)C" } : Jvm.MethodName)), (Jvm.Cond.code ({ cls := "java/lang/StringUTF16", name := "getChar", desc := "([BI)C" } : Jvm.MethodName) prog_15_method_5_code (2 : Nat) (Option.some Jvm.ClassFile.FieldType.char)), Cond.fieldLink "java/lang/StringUTF16" 44 "java/lang/StringUTF16" "$assertionsDisabled" "Z", (Jvm.Cond.laysStatic "java/lang/StringUTF16" "$assertionsDisabled" "Z")]
def ch_3_17 : List Cond := [Cond.fieldLink "java/lang/StringUTF16" 59 "java/lang/StringUTF16" "HI_BYTE_SHIFT" "I", (Jvm.Cond.laysStatic "java/lang/StringUTF16" "HI_BYTE_SHIFT" "I"), Cond.fieldLink "java/lang/StringUTF16" 63 "java/lang/StringUTF16" "LO_BYTE_SHIFT" "I", (Jvm.Cond.laysStatic "java/lang/StringUTF16" "LO_BYTE_SHIFT" "I"), Cond.methodLink RX6 105 yX6_isOnTape, (Jvm.Cond.privateMethod ({ cls := "SeaWatches$Tape", name := "isOnTape", desc := "(II)Z" } : Jvm.MethodName)), Cond.instanceMethod yX6_isOnTape, Cond.code yX6_isOnTape cX6_isOnTape 4 (some .boolean), Cond.methodLink RX6 83 yX6_isDigit, Cond.static yX6_isDigit]
def ch_3_18 : List Cond := [Cond.code yX6_isDigit cX6_isDigit 1 (some .boolean), Cond.methodLink RX6 86 yX6_takeDigits, (Jvm.Cond.privateMethod ({ cls := "SeaWatches$Tape", name := "takeDigits", desc := "()V" } : Jvm.MethodName)), Cond.instanceMethod yX6_takeDigits, Cond.code yX6_takeDigits cX6_takeDigits 1 none, Cond.methodLink RX6 89 yX6_isSign, Cond.static yX6_isSign, Cond.code yX6_isSign cX6_isSign 1 (some .boolean), Cond.methodLink RX6 48 yX6_readEither, (Jvm.Cond.privateMethod ({ cls := "SeaWatches$Tape", name := "readEither", desc := "(I)Z" } : Jvm.MethodName))]
def ch_3_19 : List Cond := [Cond.instanceMethod yX6_readEither, Cond.code yX6_readEither cX6_readEither 4 (some .boolean), Cond.methodLink RX6 52 yX6_readBoth, (Jvm.Cond.privateMethod ({ cls := "SeaWatches$Tape", name := "readBoth", desc := "(I)Z" } : Jvm.MethodName)), Cond.instanceMethod yX6_readBoth, Cond.code yX6_readBoth cX6_readBoth 4 (some .boolean), Cond.methodLink RX6 59 yX6_readNegation, (Jvm.Cond.privateMethod ({ cls := "SeaWatches$Tape", name := "readNegation", desc := "(I)Z" } : Jvm.MethodName)), Cond.instanceMethod yX6_readNegation, Cond.code yX6_readNegation cX6_readNegation 3 (some .boolean)]
def ch_3_20 : List Cond := [Cond.methodLink RX6 62 yX6_readComparison, (Jvm.Cond.privateMethod ({ cls := "SeaWatches$Tape", name := "readComparison", desc := "(I)Z" } : Jvm.MethodName)), Cond.instanceMethod yX6_readComparison, Cond.code yX6_readComparison cX6_readComparison 4 (some .boolean), Cond.methodLink RX6 65 yX6_readSum, (Jvm.Cond.privateMethod ({ cls := "SeaWatches$Tape", name := "readSum", desc := "(I)Z" } : Jvm.MethodName)), Cond.instanceMethod yX6_readSum, Cond.code yX6_readSum cX6_readSum 5 (some .boolean), Cond.methodLink RX6 68 yX6_readProduct, (Jvm.Cond.privateMethod ({ cls := "SeaWatches$Tape", name := "readProduct", desc := "(I)Z" } : Jvm.MethodName))]
def ch_3_21 : List Cond := [Cond.instanceMethod yX6_readProduct, Cond.code yX6_readProduct cX6_readProduct 5 (some .boolean), Cond.methodLink RX6 71 yX6_readOperand, (Jvm.Cond.privateMethod ({ cls := "SeaWatches$Tape", name := "readOperand", desc := "(I)Z" } : Jvm.MethodName)), Cond.instanceMethod yX6_readOperand, Cond.code yX6_readOperand cX6_readOperand 4 (some .boolean), Cond.methodLink RX6 55 yX4_add, Cond.instanceMethod yX4_add, Cond.selects RX4 yX4_add yX4_add, Cond.code yX4_add cX4_add 3 none]
def ch_3_22 : List Cond := [Cond.methodLink RX6 74 yX6_readInBrackets, (Jvm.Cond.privateMethod ({ cls := "SeaWatches$Tape", name := "readInBrackets", desc := "(I)Z" } : Jvm.MethodName)), Cond.instanceMethod yX6_readInBrackets, Cond.code yX6_readInBrackets cX6_readInBrackets 2 (some .boolean), Cond.methodLink RX8 190 yX6_exchangeRule, Cond.instanceMethod yX6_exchangeRule, Cond.selects RX6 yX6_exchangeRule yX6_exchangeRule, Cond.code yX6_exchangeRule cX6_exchangeRule 3 (some (.object "SeaWatches$Rule")), Cond.methodLink R_law 98 yX8_trial, Cond.instanceMethod yX8_trial]
def ch_3_23 : List Cond := [Cond.selects RX8 yX8_trial yX8_trial, Cond.code yX8_trial cX8_trial 4 (some .int), Cond.methodLink RX8 194 yX8_hasTrial, (Jvm.Cond.privateMethod ({ cls := "SeaWatches", name := "hasTrial", desc := "(III)Z" } : Jvm.MethodName)), Cond.instanceMethod yX8_hasTrial, Cond.code yX8_hasTrial cX8_hasTrial 5 (some .boolean), Cond.methodLink RX8 198 yX8_workOutTrial, (Jvm.Cond.privateMethod ({ cls := "SeaWatches", name := "workOutTrial", desc := "(II)I" } : Jvm.MethodName)), Cond.instanceMethod yX8_workOutTrial, Cond.code yX8_workOutTrial cX8_workOutTrial 5 (some .int)]
set_option maxRecDepth 100000 in
theorem tq_3 : tables_1_3 = ch_3_0 ++ (ch_3_1 ++ (ch_3_2 ++ (ch_3_3 ++ (ch_3_4 ++ (ch_3_5 ++ (ch_3_6 ++ (ch_3_7 ++ (ch_3_8 ++ (ch_3_9 ++ (ch_3_10 ++ (ch_3_11 ++ (ch_3_12 ++ (ch_3_13 ++ (ch_3_14 ++ (ch_3_15 ++ (ch_3_16 ++ (ch_3_17 ++ (ch_3_18 ++ (ch_3_19 ++ (ch_3_20 ++ (ch_3_21 ++ (ch_3_22 ++ (ch_3_23))))))))))))))))))))))) := rfl
theorem cm_3_0 {w : Cond} (h : w ∈ ch_3_0) (hg : goodWord w = true) : w ∈ tb := List.mem_filter.mpr ⟨List.mem_append_right _ (show w ∈ tables_1 from List.mem_append_right _ (List.mem_append_right _ (List.mem_append_left _ (show w ∈ tables_1_3 from by rw [tq_3]; exact List.mem_append_left _ h)))), hg⟩
theorem cm_3_1 {w : Cond} (h : w ∈ ch_3_1) (hg : goodWord w = true) : w ∈ tb := List.mem_filter.mpr ⟨List.mem_append_right _ (show w ∈ tables_1 from List.mem_append_right _ (List.mem_append_right _ (List.mem_append_left _ (show w ∈ tables_1_3 from by rw [tq_3]; exact List.mem_append_right _ (List.mem_append_left _ h))))), hg⟩
theorem cm_3_2 {w : Cond} (h : w ∈ ch_3_2) (hg : goodWord w = true) : w ∈ tb := List.mem_filter.mpr ⟨List.mem_append_right _ (show w ∈ tables_1 from List.mem_append_right _ (List.mem_append_right _ (List.mem_append_left _ (show w ∈ tables_1_3 from by rw [tq_3]; exact List.mem_append_right _ (List.mem_append_right _ (List.mem_append_left _ h)))))), hg⟩
theorem cm_3_3 {w : Cond} (h : w ∈ ch_3_3) (hg : goodWord w = true) : w ∈ tb := List.mem_filter.mpr ⟨List.mem_append_right _ (show w ∈ tables_1 from List.mem_append_right _ (List.mem_append_right _ (List.mem_append_left _ (show w ∈ tables_1_3 from by rw [tq_3]; exact List.mem_append_right _ (List.mem_append_right _ (List.mem_append_right _ (List.mem_append_left _ h))))))), hg⟩
theorem cm_3_4 {w : Cond} (h : w ∈ ch_3_4) (hg : goodWord w = true) : w ∈ tb := List.mem_filter.mpr ⟨List.mem_append_right _ (show w ∈ tables_1 from List.mem_append_right _ (List.mem_append_right _ (List.mem_append_left _ (show w ∈ tables_1_3 from by rw [tq_3]; exact List.mem_append_right _ (List.mem_append_right _ (List.mem_append_right _ (List.mem_append_right _ (List.mem_append_left _ h)))))))), hg⟩
theorem cm_3_5 {w : Cond} (h : w ∈ ch_3_5) (hg : goodWord w = true) : w ∈ tb := List.mem_filter.mpr ⟨List.mem_append_right _ (show w ∈ tables_1 from List.mem_append_right _ (List.mem_append_right _ (List.mem_append_left _ (show w ∈ tables_1_3 from by rw [tq_3]; exact List.mem_append_right _ (List.mem_append_right _ (List.mem_append_right _ (List.mem_append_right _ (List.mem_append_right _ (List.mem_append_left _ h))))))))), hg⟩
theorem cm_3_6 {w : Cond} (h : w ∈ ch_3_6) (hg : goodWord w = true) : w ∈ tb := List.mem_filter.mpr ⟨List.mem_append_right _ (show w ∈ tables_1 from List.mem_append_right _ (List.mem_append_right _ (List.mem_append_left _ (show w ∈ tables_1_3 from by rw [tq_3]; exact List.mem_append_right _ (List.mem_append_right _ (List.mem_append_right _ (List.mem_append_right _ (List.mem_append_right _ (List.mem_append_right _ (List.mem_append_left _ h)))))))))), hg⟩
theorem cm_3_7 {w : Cond} (h : w ∈ ch_3_7) (hg : goodWord w = true) : w ∈ tb := List.mem_filter.mpr ⟨List.mem_append_right _ (show w ∈ tables_1 from List.mem_append_right _ (List.mem_append_right _ (List.mem_append_left _ (show w ∈ tables_1_3 from by rw [tq_3]; exact List.mem_append_right _ (List.mem_append_right _ (List.mem_append_right _ (List.mem_append_right _ (List.mem_append_right _ (List.mem_append_right _ (List.mem_append_right _ (List.mem_append_left _ h))))))))))), hg⟩
theorem cm_3_8 {w : Cond} (h : w ∈ ch_3_8) (hg : goodWord w = true) : w ∈ tb := List.mem_filter.mpr ⟨List.mem_append_right _ (show w ∈ tables_1 from List.mem_append_right _ (List.mem_append_right _ (List.mem_append_left _ (show w ∈ tables_1_3 from by rw [tq_3]; exact List.mem_append_right _ (List.mem_append_right _ (List.mem_append_right _ (List.mem_append_right _ (List.mem_append_right _ (List.mem_append_right _ (List.mem_append_right _ (List.mem_append_right _ (List.mem_append_left _ h)))))))))))), hg⟩
theorem cm_3_9 {w : Cond} (h : w ∈ ch_3_9) (hg : goodWord w = true) : w ∈ tb := List.mem_filter.mpr ⟨List.mem_append_right _ (show w ∈ tables_1 from List.mem_append_right _ (List.mem_append_right _ (List.mem_append_left _ (show w ∈ tables_1_3 from by rw [tq_3]; exact List.mem_append_right _ (List.mem_append_right _ (List.mem_append_right _ (List.mem_append_right _ (List.mem_append_right _ (List.mem_append_right _ (List.mem_append_right _ (List.mem_append_right _ (List.mem_append_right _ (List.mem_append_left _ h))))))))))))), hg⟩
theorem cm_3_10 {w : Cond} (h : w ∈ ch_3_10) (hg : goodWord w = true) : w ∈ tb := List.mem_filter.mpr ⟨List.mem_append_right _ (show w ∈ tables_1 from List.mem_append_right _ (List.mem_append_right _ (List.mem_append_left _ (show w ∈ tables_1_3 from by rw [tq_3]; exact List.mem_append_right _ (List.mem_append_right _ (List.mem_append_right _ (List.mem_append_right _ (List.mem_append_right _ (List.mem_append_right _ (List.mem_append_right _ (List.mem_append_right _ (List.mem_append_right _ (List.mem_append_right _ (List.mem_append_left _ h)))))))))))))), hg⟩
theorem cm_3_11 {w : Cond} (h : w ∈ ch_3_11) (hg : goodWord w = true) : w ∈ tb := List.mem_filter.mpr ⟨List.mem_append_right _ (show w ∈ tables_1 from List.mem_append_right _ (List.mem_append_right _ (List.mem_append_left _ (show w ∈ tables_1_3 from by rw [tq_3]; exact List.mem_append_right _ (List.mem_append_right _ (List.mem_append_right _ (List.mem_append_right _ (List.mem_append_right _ (List.mem_append_right _ (List.mem_append_right _ (List.mem_append_right _ (List.mem_append_right _ (List.mem_append_right _ (List.mem_append_right _ (List.mem_append_left _ h))))))))))))))), hg⟩
theorem cm_3_12 {w : Cond} (h : w ∈ ch_3_12) (hg : goodWord w = true) : w ∈ tb := List.mem_filter.mpr ⟨List.mem_append_right _ (show w ∈ tables_1 from List.mem_append_right _ (List.mem_append_right _ (List.mem_append_left _ (show w ∈ tables_1_3 from by rw [tq_3]; exact List.mem_append_right _ (List.mem_append_right _ (List.mem_append_right _ (List.mem_append_right _ (List.mem_append_right _ (List.mem_append_right _ (List.mem_append_right _ (List.mem_append_right _ (List.mem_append_right _ (List.mem_append_right _ (List.mem_append_right _ (List.mem_append_right _ (List.mem_append_left _ h)))))))))))))))), hg⟩
theorem cm_3_13 {w : Cond} (h : w ∈ ch_3_13) (hg : goodWord w = true) : w ∈ tb := List.mem_filter.mpr ⟨List.mem_append_right _ (show w ∈ tables_1 from List.mem_append_right _ (List.mem_append_right _ (List.mem_append_left _ (show w ∈ tables_1_3 from by rw [tq_3]; exact List.mem_append_right _ (List.mem_append_right _ (List.mem_append_right _ (List.mem_append_right _ (List.mem_append_right _ (List.mem_append_right _ (List.mem_append_right _ (List.mem_append_right _ (List.mem_append_right _ (List.mem_append_right _ (List.mem_append_right _ (List.mem_append_right _ (List.mem_append_right _ (List.mem_append_left _ h))))))))))))))))), hg⟩
theorem cm_3_14 {w : Cond} (h : w ∈ ch_3_14) (hg : goodWord w = true) : w ∈ tb := List.mem_filter.mpr ⟨List.mem_append_right _ (show w ∈ tables_1 from List.mem_append_right _ (List.mem_append_right _ (List.mem_append_left _ (show w ∈ tables_1_3 from by rw [tq_3]; exact List.mem_append_right _ (List.mem_append_right _ (List.mem_append_right _ (List.mem_append_right _ (List.mem_append_right _ (List.mem_append_right _ (List.mem_append_right _ (List.mem_append_right _ (List.mem_append_right _ (List.mem_append_right _ (List.mem_append_right _ (List.mem_append_right _ (List.mem_append_right _ (List.mem_append_right _ (List.mem_append_left _ h)))))))))))))))))), hg⟩
theorem cm_3_15 {w : Cond} (h : w ∈ ch_3_15) (hg : goodWord w = true) : w ∈ tb := List.mem_filter.mpr ⟨List.mem_append_right _ (show w ∈ tables_1 from List.mem_append_right _ (List.mem_append_right _ (List.mem_append_left _ (show w ∈ tables_1_3 from by rw [tq_3]; exact List.mem_append_right _ (List.mem_append_right _ (List.mem_append_right _ (List.mem_append_right _ (List.mem_append_right _ (List.mem_append_right _ (List.mem_append_right _ (List.mem_append_right _ (List.mem_append_right _ (List.mem_append_right _ (List.mem_append_right _ (List.mem_append_right _ (List.mem_append_right _ (List.mem_append_right _ (List.mem_append_right _ (List.mem_append_left _ h))))))))))))))))))), hg⟩
theorem cm_3_16 {w : Cond} (h : w ∈ ch_3_16) (hg : goodWord w = true) : w ∈ tb := List.mem_filter.mpr ⟨List.mem_append_right _ (show w ∈ tables_1 from List.mem_append_right _ (List.mem_append_right _ (List.mem_append_left _ (show w ∈ tables_1_3 from by rw [tq_3]; exact List.mem_append_right _ (List.mem_append_right _ (List.mem_append_right _ (List.mem_append_right _ (List.mem_append_right _ (List.mem_append_right _ (List.mem_append_right _ (List.mem_append_right _ (List.mem_append_right _ (List.mem_append_right _ (List.mem_append_right _ (List.mem_append_right _ (List.mem_append_right _ (List.mem_append_right _ (List.mem_append_right _ (List.mem_append_right _ (List.mem_append_left _ h)))))))))))))))))))), hg⟩
theorem cm_3_17 {w : Cond} (h : w ∈ ch_3_17) (hg : goodWord w = true) : w ∈ tb := List.mem_filter.mpr ⟨List.mem_append_right _ (show w ∈ tables_1 from List.mem_append_right _ (List.mem_append_right _ (List.mem_append_left _ (show w ∈ tables_1_3 from by rw [tq_3]; exact List.mem_append_right _ (List.mem_append_right _ (List.mem_append_right _ (List.mem_append_right _ (List.mem_append_right _ (List.mem_append_right _ (List.mem_append_right _ (List.mem_append_right _ (List.mem_append_right _ (List.mem_append_right _ (List.mem_append_right _ (List.mem_append_right _ (List.mem_append_right _ (List.mem_append_right _ (List.mem_append_right _ (List.mem_append_right _ (List.mem_append_right _ (List.mem_append_left _ h))))))))))))))))))))), hg⟩
theorem cm_3_18 {w : Cond} (h : w ∈ ch_3_18) (hg : goodWord w = true) : w ∈ tb := List.mem_filter.mpr ⟨List.mem_append_right _ (show w ∈ tables_1 from List.mem_append_right _ (List.mem_append_right _ (List.mem_append_left _ (show w ∈ tables_1_3 from by rw [tq_3]; exact List.mem_append_right _ (List.mem_append_right _ (List.mem_append_right _ (List.mem_append_right _ (List.mem_append_right _ (List.mem_append_right _ (List.mem_append_right _ (List.mem_append_right _ (List.mem_append_right _ (List.mem_append_right _ (List.mem_append_right _ (List.mem_append_right _ (List.mem_append_right _ (List.mem_append_right _ (List.mem_append_right _ (List.mem_append_right _ (List.mem_append_right _ (List.mem_append_right _ (List.mem_append_left _ h)))))))))))))))))))))), hg⟩
theorem cm_3_19 {w : Cond} (h : w ∈ ch_3_19) (hg : goodWord w = true) : w ∈ tb := List.mem_filter.mpr ⟨List.mem_append_right _ (show w ∈ tables_1 from List.mem_append_right _ (List.mem_append_right _ (List.mem_append_left _ (show w ∈ tables_1_3 from by rw [tq_3]; exact List.mem_append_right _ (List.mem_append_right _ (List.mem_append_right _ (List.mem_append_right _ (List.mem_append_right _ (List.mem_append_right _ (List.mem_append_right _ (List.mem_append_right _ (List.mem_append_right _ (List.mem_append_right _ (List.mem_append_right _ (List.mem_append_right _ (List.mem_append_right _ (List.mem_append_right _ (List.mem_append_right _ (List.mem_append_right _ (List.mem_append_right _ (List.mem_append_right _ (List.mem_append_right _ (List.mem_append_left _ h))))))))))))))))))))))), hg⟩
theorem cm_3_20 {w : Cond} (h : w ∈ ch_3_20) (hg : goodWord w = true) : w ∈ tb := List.mem_filter.mpr ⟨List.mem_append_right _ (show w ∈ tables_1 from List.mem_append_right _ (List.mem_append_right _ (List.mem_append_left _ (show w ∈ tables_1_3 from by rw [tq_3]; exact List.mem_append_right _ (List.mem_append_right _ (List.mem_append_right _ (List.mem_append_right _ (List.mem_append_right _ (List.mem_append_right _ (List.mem_append_right _ (List.mem_append_right _ (List.mem_append_right _ (List.mem_append_right _ (List.mem_append_right _ (List.mem_append_right _ (List.mem_append_right _ (List.mem_append_right _ (List.mem_append_right _ (List.mem_append_right _ (List.mem_append_right _ (List.mem_append_right _ (List.mem_append_right _ (List.mem_append_right _ (List.mem_append_left _ h)))))))))))))))))))))))), hg⟩
theorem cm_3_21 {w : Cond} (h : w ∈ ch_3_21) (hg : goodWord w = true) : w ∈ tb := List.mem_filter.mpr ⟨List.mem_append_right _ (show w ∈ tables_1 from List.mem_append_right _ (List.mem_append_right _ (List.mem_append_left _ (show w ∈ tables_1_3 from by rw [tq_3]; exact List.mem_append_right _ (List.mem_append_right _ (List.mem_append_right _ (List.mem_append_right _ (List.mem_append_right _ (List.mem_append_right _ (List.mem_append_right _ (List.mem_append_right _ (List.mem_append_right _ (List.mem_append_right _ (List.mem_append_right _ (List.mem_append_right _ (List.mem_append_right _ (List.mem_append_right _ (List.mem_append_right _ (List.mem_append_right _ (List.mem_append_right _ (List.mem_append_right _ (List.mem_append_right _ (List.mem_append_right _ (List.mem_append_right _ (List.mem_append_left _ h))))))))))))))))))))))))), hg⟩
theorem cm_3_22 {w : Cond} (h : w ∈ ch_3_22) (hg : goodWord w = true) : w ∈ tb := List.mem_filter.mpr ⟨List.mem_append_right _ (show w ∈ tables_1 from List.mem_append_right _ (List.mem_append_right _ (List.mem_append_left _ (show w ∈ tables_1_3 from by rw [tq_3]; exact List.mem_append_right _ (List.mem_append_right _ (List.mem_append_right _ (List.mem_append_right _ (List.mem_append_right _ (List.mem_append_right _ (List.mem_append_right _ (List.mem_append_right _ (List.mem_append_right _ (List.mem_append_right _ (List.mem_append_right _ (List.mem_append_right _ (List.mem_append_right _ (List.mem_append_right _ (List.mem_append_right _ (List.mem_append_right _ (List.mem_append_right _ (List.mem_append_right _ (List.mem_append_right _ (List.mem_append_right _ (List.mem_append_right _ (List.mem_append_right _ (List.mem_append_left _ h)))))))))))))))))))))))))), hg⟩
theorem cm_3_23 {w : Cond} (h : w ∈ ch_3_23) (hg : goodWord w = true) : w ∈ tb := List.mem_filter.mpr ⟨List.mem_append_right _ (show w ∈ tables_1 from List.mem_append_right _ (List.mem_append_right _ (List.mem_append_left _ (show w ∈ tables_1_3 from by rw [tq_3]; exact List.mem_append_right _ (List.mem_append_right _ (List.mem_append_right _ (List.mem_append_right _ (List.mem_append_right _ (List.mem_append_right _ (List.mem_append_right _ (List.mem_append_right _ (List.mem_append_right _ (List.mem_append_right _ (List.mem_append_right _ (List.mem_append_right _ (List.mem_append_right _ (List.mem_append_right _ (List.mem_append_right _ (List.mem_append_right _ (List.mem_append_right _ (List.mem_append_right _ (List.mem_append_right _ (List.mem_append_right _ (List.mem_append_right _ (List.mem_append_right _ (List.mem_append_right _ (h))))))))))))))))))))))))))), hg⟩
def ch_4_0 : List Cond := [Cond.methodLink RX8 328 yX3_least, Cond.instanceMethod yX3_least, Cond.selects RX3 yX3_least yX3_least, Cond.code yX3_least cX3_least 3 (some .int), (Jvm.Cond.methodLink "SeaWatches$Rates" (36 : Nat) ({ cls := "java/lang/Math", name := "min", desc := "(II)I" } : Jvm.MethodName)), (Jvm.Cond.static ({ cls := "java/lang/Math", name := "min", desc := "(II)I" } : Jvm.MethodName)), (Jvm.Cond.code ({ cls := "java/lang/Math", name := "min", desc := "(II)I" } : Jvm.MethodName) prog_12_method_69_code (2 : Nat) (Option.some Jvm.ClassFile.FieldType.int)), Cond.methodLink RX8 331 yX3_most, Cond.instanceMethod yX3_most, Cond.selects RX3 yX3_most yX3_most]
def ch_4_1 : List Cond := [Cond.code yX3_most cX3_most 3 (some .int), (Jvm.Cond.methodLink "SeaWatches$Rates" (42 : Nat) ({ cls := "java/lang/Math", name := "max", desc := "(II)I" } : Jvm.MethodName)), (Jvm.Cond.static ({ cls := "java/lang/Math", name := "max", desc := "(II)I" } : Jvm.MethodName)), (Jvm.Cond.code ({ cls := "java/lang/Math", name := "max", desc := "(II)I" } : Jvm.MethodName) prog_12_method_65_code (2 : Nat) (Option.some Jvm.ClassFile.FieldType.int)), Cond.methodLink RX8 334 yX3_greatestStep, Cond.instanceMethod yX3_greatestStep, Cond.selects RX3 yX3_greatestStep yX3_greatestStep, Cond.code yX3_greatestStep cX3_greatestStep 3 (some .int), Cond.methodLink RX8 337 yX3_drift, Cond.instanceMethod yX3_drift]
def ch_4_2 : List Cond := [Cond.selects RX3 yX3_drift yX3_drift, Cond.code yX3_drift cX3_drift 1 (some .int), Cond.methodLink RX8 340 yX3_sum, Cond.instanceMethod yX3_sum, Cond.selects RX3 yX3_sum yX3_sum, Cond.code yX3_sum cX3_sum 3 (some .int), Cond.methodLink RX8 343 yX8_warmthSpan, (Jvm.Cond.privateMethod ({ cls := "SeaWatches", name := "warmthSpan", desc := "(I)I" } : Jvm.MethodName)), Cond.instanceMethod yX8_warmthSpan, Cond.code yX8_warmthSpan cX8_warmthSpan 6 (some .int)]
def ch_4_3 : List Cond := [(Jvm.Cond.methodLink "SeaWatches" (350 : Nat) ({ cls := "java/lang/Math", name := "min", desc := "(II)I" } : Jvm.MethodName)), (Jvm.Cond.methodLink "SeaWatches" (355 : Nat) ({ cls := "java/lang/Math", name := "max", desc := "(II)I" } : Jvm.MethodName)), Cond.methodLink RX8 346 yX4_workOut, Cond.instanceMethod yX4_workOut, Cond.selects RX4 yX4_workOut yX4_workOut, Cond.code yX4_workOut cX4_workOut 6 (some .int), Cond.methodLink RX4 25 yX4_isAhead, Cond.static yX4_isAhead, Cond.code yX4_isAhead cX4_isAhead 1 (some .boolean), Cond.methodLink RX4 29 yX4_workOutOne]
def ch_4_4 : List Cond := [Cond.static yX4_workOutOne, Cond.code yX4_workOutOne cX4_workOutOne 2 (some .int), Cond.methodLink RX4 33 yX4_workOutTwo, Cond.static yX4_workOutTwo, Cond.code yX4_workOutTwo cX4_workOutTwo 3 (some .int), Cond.methodLink R_law 102 yX8_order, Cond.instanceMethod yX8_order, Cond.selects RX8 yX8_order yX8_order, Cond.code yX8_order cX8_order 8 (some .int), Cond.methodLink R_law 106 yX8_sail]
def ch_4_5 : List Cond := [Cond.instanceMethod yX8_sail, Cond.selects RX8 yX8_sail yX8_sail, Cond.code yX8_sail cX8_sail 7 (some .int), Cond.methodLink RX8 202 yX8_isShip, Cond.static yX8_isShip, Cond.code yX8_isShip cX8_isShip 1 (some .boolean), Cond.methodLink RX8 205 yX8_firstLack, (Jvm.Cond.privateMethod ({ cls := "SeaWatches", name := "firstLack", desc := "(III)I" } : Jvm.MethodName)), Cond.instanceMethod yX8_firstLack, Cond.code yX8_firstLack cX8_firstLack 4 (some .int)]
def ch_4_6 : List Cond := [Cond.methodLink RX8 211 yX8_isFitToSail, (Jvm.Cond.privateMethod ({ cls := "SeaWatches", name := "isFitToSail", desc := "(I)Z" } : Jvm.MethodName)), Cond.instanceMethod yX8_isFitToSail, Cond.code yX8_isFitToSail cX8_isFitToSail 3 (some .boolean), Cond.methodLink RX8 358 yX8_gatherBeforeSailing, (Jvm.Cond.privateMethod ({ cls := "SeaWatches", name := "gatherBeforeSailing", desc := "(LSeaWatches$Watch;)V" } : Jvm.MethodName)), Cond.instanceMethod yX8_gatherBeforeSailing, Cond.code yX8_gatherBeforeSailing cX8_gatherBeforeSailing 2 none, Cond.methodLink RX8 214 yX5_leave, Cond.instanceMethod yX5_leave]
def ch_4_7 : List Cond := [Cond.selects RX5 yX5_leave yX5_leave, Cond.code yX5_leave cX5_leave 2 none, Cond.methodLink RX8 217 yX8_board, (Jvm.Cond.privateMethod ({ cls := "SeaWatches", name := "board", desc := "(III)V" } : Jvm.MethodName)), Cond.instanceMethod yX8_board, Cond.code yX8_board cX8_board 7 none, (Jvm.Cond.methodLink "SeaWatches" (362 : Nat) ({ cls := "java/lang/Math", name := "floorDiv", desc := "(II)I" } : Jvm.MethodName)), (Jvm.Cond.static ({ cls := "java/lang/Math", name := "floorDiv", desc := "(II)I" } : Jvm.MethodName)), (Jvm.Cond.code ({ cls := "java/lang/Math", name := "floorDiv", desc := "(II)I" } : Jvm.MethodName) prog_12_method_47_code (3 : Nat) (Option.some Jvm.ClassFile.FieldType.int)), Cond.methodLink RX8 365 yX5_carry]
def ch_4_8 : List Cond := [Cond.instanceMethod yX5_carry, Cond.selects RX5 yX5_carry yX5_carry, Cond.code yX5_carry cX5_carry 6 none, Cond.methodLink RX8 288 yX7_giveTo, Cond.instanceMethod yX7_giveTo, Cond.selects RX7 yX7_giveTo yX7_giveTo, Cond.code yX7_giveTo cX7_giveTo 4 none, (Jvm.Cond.methodLink "SeaWatches$Watch" (52 : Nat) ({ cls := "java/lang/Math", name := "max", desc := "(II)I" } : Jvm.MethodName)), Cond.methodLink R_law 110 yX8_carried, Cond.instanceMethod yX8_carried]
def ch_4_9 : List Cond := [Cond.selects RX8 yX8_carried yX8_carried, Cond.code yX8_carried cX8_carried 5 (some .int), Cond.methodLink R_law 114 yX8_sight, Cond.instanceMethod yX8_sight, Cond.selects RX8 yX8_sight yX8_sight, Cond.code yX8_sight cX8_sight 7 (some .int), Cond.constant RX8 232 2000000, Cond.methodLink RX8 233 yX5_mayBeSighted, Cond.instanceMethod yX5_mayBeSighted, Cond.selects RX5 yX5_mayBeSighted yX5_mayBeSighted]
def ch_4_10 : List Cond := [Cond.code yX5_mayBeSighted cX5_mayBeSighted 2 (some .boolean), Cond.methodLink RX8 239 yX5_addSight, Cond.instanceMethod yX5_addSight, Cond.selects RX5 yX5_addSight yX5_addSight, Cond.code yX5_addSight cX5_addSight 5 (some .int), Cond.methodLink R_law 118 yX8_told, Cond.instanceMethod yX8_told, Cond.selects RX8 yX8_told yX8_told, Cond.code yX8_told cX8_told 8 (some .int), Cond.methodLink RX8 246 yX5_widthOf]
def ch_4_11 : List Cond := [Cond.instanceMethod yX5_widthOf, Cond.selects RX5 yX5_widthOf yX5_widthOf, Cond.code yX5_widthOf cX5_widthOf 4 (some .int), Cond.methodLink RX5 46 yX5_isOf, (Jvm.Cond.privateMethod ({ cls := "SeaWatches$Ship", name := "isOf", desc := "(II)Z" } : Jvm.MethodName)), Cond.instanceMethod yX5_isOf, Cond.code yX5_isOf cX5_isOf 3 (some .boolean), Cond.methodLink RX5 50 yX5_daysSince, Cond.instanceMethod yX5_daysSince, Cond.selects RX5 yX5_daysSince yX5_daysSince]
def ch_4_12 : List Cond := [Cond.code yX5_daysSince cX5_daysSince 2 (some .int), (Jvm.Cond.methodLink "SeaWatches$Ship" (60 : Nat) ({ cls := "java/lang/Math", name := "min", desc := "(II)I" } : Jvm.MethodName)), Cond.methodLink RX8 249 yX5_timeOf, Cond.instanceMethod yX5_timeOf, Cond.selects RX5 yX5_timeOf yX5_timeOf, Cond.code yX5_timeOf cX5_timeOf 5 (some .int), (Jvm.Cond.methodLink "SeaWatches$Ship" (54 : Nat) ({ cls := "java/lang/Math", name := "floorDiv", desc := "(II)I" } : Jvm.MethodName)), Cond.methodLink RX8 252 yX8_droppedOf, (Jvm.Cond.privateMethod ({ cls := "SeaWatches", name := "droppedOf", desc := "(LSeaWatches$Ship;I)I" } : Jvm.MethodName)), Cond.instanceMethod yX8_droppedOf]
def ch_4_13 : List Cond := [Cond.code yX8_droppedOf cX8_droppedOf 7 (some .int), Cond.methodLink RX8 371 yX5_offFromOthers, Cond.instanceMethod yX5_offFromOthers, Cond.selects RX5 yX5_offFromOthers yX5_offFromOthers, Cond.code yX5_offFromOthers cX5_offFromOthers 4 (some .int), Cond.methodLink RX5 63 yX5_timeOf, (Jvm.Cond.methodLink "SeaWatches$Ship" (66 : Nat) ({ cls := "java/lang/Math", name := "abs", desc := "(I)I" } : Jvm.MethodName)), Cond.methodLink RX8 374 yX5_daysSince, Cond.methodLink RX8 256 yX5_beginOf, Cond.instanceMethod yX5_beginOf]
def ch_4_14 : List Cond := [Cond.selects RX5 yX5_beginOf yX5_beginOf, Cond.code yX5_beginOf cX5_beginOf 5 (some .int), Cond.constant RX5 69 (-2000000000), Cond.methodLink RX5 70 yX5_widthOf, (Jvm.Cond.methodLink "SeaWatches$Ship" (73 : Nat) ({ cls := "java/lang/Math", name := "max", desc := "(II)I" } : Jvm.MethodName)), Cond.methodLink RX8 259 yX5_endOf, Cond.instanceMethod yX5_endOf, Cond.selects RX5 yX5_endOf yX5_endOf, Cond.code yX5_endOf cX5_endOf 5 (some .int), Cond.constant RX5 76 2000000000]
def ch_4_15 : List Cond := [Cond.methodLink R_law 122 yX8_back, Cond.instanceMethod yX8_back, Cond.selects RX8 yX8_back yX8_back, Cond.code yX8_back cX8_back 6 (some .int), Cond.methodLink RX8 265 yX5_comeBack, Cond.instanceMethod yX5_comeBack, Cond.selects RX5 yX5_comeBack yX5_comeBack, Cond.code yX5_comeBack cX5_comeBack 2 none, Cond.methodLink RX8 268 yX8_unload, (Jvm.Cond.privateMethod ({ cls := "SeaWatches", name := "unload", desc := "(LSeaWatches$Ship;II)V" } : Jvm.MethodName))]
def ch_4_16 : List Cond := [Cond.instanceMethod yX8_unload, Cond.code yX8_unload cX8_unload 5 none, Cond.methodLink R_law 126 yX8_state, Cond.instanceMethod yX8_state, Cond.selects RX8 yX8_state yX8_state, Cond.code yX8_state cX8_state 2 (some .int), Cond.methodLink R_law 130 yX8_doubt, Cond.instanceMethod yX8_doubt, Cond.selects RX8 yX8_doubt yX8_doubt, Cond.code yX8_doubt cX8_doubt 2 (some .int)]
def ch_4_17 : List Cond := [Cond.methodLink RX8 278 yX0_add, Cond.instanceMethod yX0_add, Cond.selects RX0 yX0_add yX0_add, Cond.code yX0_add cX0_add 2 none, Cond.methodLink R_law 134 yX8_deal, Cond.instanceMethod yX8_deal, Cond.selects RX8 yX8_deal yX8_deal, Cond.code yX8_deal cX8_deal 5 (some .int), Cond.methodLink RX8 279 yX0_shareOut, Cond.instanceMethod yX0_shareOut]
def ch_4_18 : List Cond := [Cond.selects RX0 yX0_shareOut yX0_shareOut, Cond.code yX0_shareOut cX0_shareOut 6 (some .int), (Jvm.Cond.methodLink "SeaWatches$Dealing" (40 : Nat) ({ cls := "java/lang/Math", name := "min", desc := "(II)I" } : Jvm.MethodName)), (Jvm.Cond.methodLink "SeaWatches$Dealing" (46 : Nat) ({ cls := "java/lang/Math", name := "max", desc := "(II)I" } : Jvm.MethodName)), Cond.constant RX0 49 2000000000, Cond.methodLink RX0 50 yX0_tryFrom, (Jvm.Cond.privateMethod ({ cls := "SeaWatches$Dealing", name := "tryFrom", desc := "(II)V" } : Jvm.MethodName)), Cond.instanceMethod yX0_tryFrom, Cond.code yX0_tryFrom cX0_tryFrom 4 none, Cond.methodLink RX0 54 yX0_keepIfBetter]
def ch_4_19 : List Cond := [(Jvm.Cond.privateMethod ({ cls := "SeaWatches$Dealing", name := "keepIfBetter", desc := "()V" } : Jvm.MethodName)), Cond.instanceMethod yX0_keepIfBetter, Cond.code yX0_keepIfBetter cX0_keepIfBetter 3 none, Cond.methodLink RX0 57 yX0_secondLeast, (Jvm.Cond.privateMethod ({ cls := "SeaWatches$Dealing", name := "secondLeast", desc := "(I)I" } : Jvm.MethodName)), Cond.instanceMethod yX0_secondLeast, Cond.code yX0_secondLeast cX0_secondLeast 6 (some .int), Cond.methodLink R_law 138 yX8_dealt, Cond.instanceMethod yX8_dealt, Cond.selects RX8 yX8_dealt yX8_dealt]
def ch_4_20 : List Cond := [Cond.code yX8_dealt cX8_dealt 2 (some .int), Cond.methodLink R_law 142 yX8_lend, Cond.instanceMethod yX8_lend, Cond.selects RX8 yX8_lend yX8_lend, Cond.code yX8_lend cX8_lend 4 (some .int), Cond.methodLink R_law 146 yX8_home, Cond.instanceMethod yX8_home, Cond.selects RX8 yX8_home yX8_home, Cond.code yX8_home cX8_home 4 (some .int), Cond.methodLink R_law 150 yX8_holder]
def ch_4_21 : List Cond := [Cond.instanceMethod yX8_holder, Cond.selects RX8 yX8_holder yX8_holder, Cond.code yX8_holder cX8_holder 4 (some .int), Cond.methodLink R_law 154 yX8_away, Cond.instanceMethod yX8_away, Cond.selects RX8 yX8_away yX8_away, Cond.code yX8_away cX8_away 3 (some .int), Cond.methodLink RX8 292 yX7_daysAway, Cond.instanceMethod yX7_daysAway, Cond.selects RX7 yX7_daysAway yX7_daysAway]
def ch_4_22 : List Cond := [Cond.code yX7_daysAway cX7_daysAway 4 (some .int), Cond.methodLink R_law 158 yX8_count, Cond.instanceMethod yX8_count, Cond.selects RX8 yX8_count yX8_count, Cond.code yX8_count cX8_count 2 (some .int), Cond.methodLink RX8 295 yX8_placesWith, (Jvm.Cond.privateMethod ({ cls := "SeaWatches", name := "placesWith", desc := "(I)I" } : Jvm.MethodName)), Cond.instanceMethod yX8_placesWith, Cond.code yX8_placesWith cX8_placesWith 4 (some .int), Cond.methodLink RX8 298 yX8_shipsAtSea]
def ch_4_23 : List Cond := [(Jvm.Cond.privateMethod ({ cls := "SeaWatches", name := "shipsAtSea", desc := "()I" } : Jvm.MethodName)), Cond.instanceMethod yX8_shipsAtSea, Cond.code yX8_shipsAtSea cX8_shipsAtSea 3 (some .int), Cond.classLink R_law 10 RX9, Cond.instantiable RX9 68, Cond.methodLink R_law 12 yX9_init, Cond.instanceMethod yX9_init, Cond.code yX9_init cX9_init 2 none, Cond.methodLink RX9 7 objectInit, Cond.fieldLink RX9 156 "SeaWatchesModel" "today" "I"]
set_option maxRecDepth 100000 in
theorem tq_4 : tables_1_4 = ch_4_0 ++ (ch_4_1 ++ (ch_4_2 ++ (ch_4_3 ++ (ch_4_4 ++ (ch_4_5 ++ (ch_4_6 ++ (ch_4_7 ++ (ch_4_8 ++ (ch_4_9 ++ (ch_4_10 ++ (ch_4_11 ++ (ch_4_12 ++ (ch_4_13 ++ (ch_4_14 ++ (ch_4_15 ++ (ch_4_16 ++ (ch_4_17 ++ (ch_4_18 ++ (ch_4_19 ++ (ch_4_20 ++ (ch_4_21 ++ (ch_4_22 ++ (ch_4_23))))))))))))))))))))))) := rfl
theorem cm_4_0 {w : Cond} (h : w ∈ ch_4_0) (hg : goodWord w = true) : w ∈ tb := List.mem_filter.mpr ⟨List.mem_append_right _ (show w ∈ tables_1 from List.mem_append_right _ (List.mem_append_right _ (List.mem_append_right _ (List.mem_append_left _ (show w ∈ tables_1_4 from by rw [tq_4]; exact List.mem_append_left _ h))))), hg⟩
theorem cm_4_1 {w : Cond} (h : w ∈ ch_4_1) (hg : goodWord w = true) : w ∈ tb := List.mem_filter.mpr ⟨List.mem_append_right _ (show w ∈ tables_1 from List.mem_append_right _ (List.mem_append_right _ (List.mem_append_right _ (List.mem_append_left _ (show w ∈ tables_1_4 from by rw [tq_4]; exact List.mem_append_right _ (List.mem_append_left _ h)))))), hg⟩
theorem cm_4_2 {w : Cond} (h : w ∈ ch_4_2) (hg : goodWord w = true) : w ∈ tb := List.mem_filter.mpr ⟨List.mem_append_right _ (show w ∈ tables_1 from List.mem_append_right _ (List.mem_append_right _ (List.mem_append_right _ (List.mem_append_left _ (show w ∈ tables_1_4 from by rw [tq_4]; exact List.mem_append_right _ (List.mem_append_right _ (List.mem_append_left _ h))))))), hg⟩
theorem cm_4_3 {w : Cond} (h : w ∈ ch_4_3) (hg : goodWord w = true) : w ∈ tb := List.mem_filter.mpr ⟨List.mem_append_right _ (show w ∈ tables_1 from List.mem_append_right _ (List.mem_append_right _ (List.mem_append_right _ (List.mem_append_left _ (show w ∈ tables_1_4 from by rw [tq_4]; exact List.mem_append_right _ (List.mem_append_right _ (List.mem_append_right _ (List.mem_append_left _ h)))))))), hg⟩
theorem cm_4_4 {w : Cond} (h : w ∈ ch_4_4) (hg : goodWord w = true) : w ∈ tb := List.mem_filter.mpr ⟨List.mem_append_right _ (show w ∈ tables_1 from List.mem_append_right _ (List.mem_append_right _ (List.mem_append_right _ (List.mem_append_left _ (show w ∈ tables_1_4 from by rw [tq_4]; exact List.mem_append_right _ (List.mem_append_right _ (List.mem_append_right _ (List.mem_append_right _ (List.mem_append_left _ h))))))))), hg⟩
theorem cm_4_5 {w : Cond} (h : w ∈ ch_4_5) (hg : goodWord w = true) : w ∈ tb := List.mem_filter.mpr ⟨List.mem_append_right _ (show w ∈ tables_1 from List.mem_append_right _ (List.mem_append_right _ (List.mem_append_right _ (List.mem_append_left _ (show w ∈ tables_1_4 from by rw [tq_4]; exact List.mem_append_right _ (List.mem_append_right _ (List.mem_append_right _ (List.mem_append_right _ (List.mem_append_right _ (List.mem_append_left _ h)))))))))), hg⟩
theorem cm_4_6 {w : Cond} (h : w ∈ ch_4_6) (hg : goodWord w = true) : w ∈ tb := List.mem_filter.mpr ⟨List.mem_append_right _ (show w ∈ tables_1 from List.mem_append_right _ (List.mem_append_right _ (List.mem_append_right _ (List.mem_append_left _ (show w ∈ tables_1_4 from by rw [tq_4]; exact List.mem_append_right _ (List.mem_append_right _ (List.mem_append_right _ (List.mem_append_right _ (List.mem_append_right _ (List.mem_append_right _ (List.mem_append_left _ h))))))))))), hg⟩
theorem cm_4_7 {w : Cond} (h : w ∈ ch_4_7) (hg : goodWord w = true) : w ∈ tb := List.mem_filter.mpr ⟨List.mem_append_right _ (show w ∈ tables_1 from List.mem_append_right _ (List.mem_append_right _ (List.mem_append_right _ (List.mem_append_left _ (show w ∈ tables_1_4 from by rw [tq_4]; exact List.mem_append_right _ (List.mem_append_right _ (List.mem_append_right _ (List.mem_append_right _ (List.mem_append_right _ (List.mem_append_right _ (List.mem_append_right _ (List.mem_append_left _ h)))))))))))), hg⟩
theorem cm_4_8 {w : Cond} (h : w ∈ ch_4_8) (hg : goodWord w = true) : w ∈ tb := List.mem_filter.mpr ⟨List.mem_append_right _ (show w ∈ tables_1 from List.mem_append_right _ (List.mem_append_right _ (List.mem_append_right _ (List.mem_append_left _ (show w ∈ tables_1_4 from by rw [tq_4]; exact List.mem_append_right _ (List.mem_append_right _ (List.mem_append_right _ (List.mem_append_right _ (List.mem_append_right _ (List.mem_append_right _ (List.mem_append_right _ (List.mem_append_right _ (List.mem_append_left _ h))))))))))))), hg⟩
theorem cm_4_9 {w : Cond} (h : w ∈ ch_4_9) (hg : goodWord w = true) : w ∈ tb := List.mem_filter.mpr ⟨List.mem_append_right _ (show w ∈ tables_1 from List.mem_append_right _ (List.mem_append_right _ (List.mem_append_right _ (List.mem_append_left _ (show w ∈ tables_1_4 from by rw [tq_4]; exact List.mem_append_right _ (List.mem_append_right _ (List.mem_append_right _ (List.mem_append_right _ (List.mem_append_right _ (List.mem_append_right _ (List.mem_append_right _ (List.mem_append_right _ (List.mem_append_right _ (List.mem_append_left _ h)))))))))))))), hg⟩
theorem cm_4_10 {w : Cond} (h : w ∈ ch_4_10) (hg : goodWord w = true) : w ∈ tb := List.mem_filter.mpr ⟨List.mem_append_right _ (show w ∈ tables_1 from List.mem_append_right _ (List.mem_append_right _ (List.mem_append_right _ (List.mem_append_left _ (show w ∈ tables_1_4 from by rw [tq_4]; exact List.mem_append_right _ (List.mem_append_right _ (List.mem_append_right _ (List.mem_append_right _ (List.mem_append_right _ (List.mem_append_right _ (List.mem_append_right _ (List.mem_append_right _ (List.mem_append_right _ (List.mem_append_right _ (List.mem_append_left _ h))))))))))))))), hg⟩
theorem cm_4_11 {w : Cond} (h : w ∈ ch_4_11) (hg : goodWord w = true) : w ∈ tb := List.mem_filter.mpr ⟨List.mem_append_right _ (show w ∈ tables_1 from List.mem_append_right _ (List.mem_append_right _ (List.mem_append_right _ (List.mem_append_left _ (show w ∈ tables_1_4 from by rw [tq_4]; exact List.mem_append_right _ (List.mem_append_right _ (List.mem_append_right _ (List.mem_append_right _ (List.mem_append_right _ (List.mem_append_right _ (List.mem_append_right _ (List.mem_append_right _ (List.mem_append_right _ (List.mem_append_right _ (List.mem_append_right _ (List.mem_append_left _ h)))))))))))))))), hg⟩
theorem cm_4_12 {w : Cond} (h : w ∈ ch_4_12) (hg : goodWord w = true) : w ∈ tb := List.mem_filter.mpr ⟨List.mem_append_right _ (show w ∈ tables_1 from List.mem_append_right _ (List.mem_append_right _ (List.mem_append_right _ (List.mem_append_left _ (show w ∈ tables_1_4 from by rw [tq_4]; exact List.mem_append_right _ (List.mem_append_right _ (List.mem_append_right _ (List.mem_append_right _ (List.mem_append_right _ (List.mem_append_right _ (List.mem_append_right _ (List.mem_append_right _ (List.mem_append_right _ (List.mem_append_right _ (List.mem_append_right _ (List.mem_append_right _ (List.mem_append_left _ h))))))))))))))))), hg⟩
theorem cm_4_13 {w : Cond} (h : w ∈ ch_4_13) (hg : goodWord w = true) : w ∈ tb := List.mem_filter.mpr ⟨List.mem_append_right _ (show w ∈ tables_1 from List.mem_append_right _ (List.mem_append_right _ (List.mem_append_right _ (List.mem_append_left _ (show w ∈ tables_1_4 from by rw [tq_4]; exact List.mem_append_right _ (List.mem_append_right _ (List.mem_append_right _ (List.mem_append_right _ (List.mem_append_right _ (List.mem_append_right _ (List.mem_append_right _ (List.mem_append_right _ (List.mem_append_right _ (List.mem_append_right _ (List.mem_append_right _ (List.mem_append_right _ (List.mem_append_right _ (List.mem_append_left _ h)))))))))))))))))), hg⟩
theorem cm_4_14 {w : Cond} (h : w ∈ ch_4_14) (hg : goodWord w = true) : w ∈ tb := List.mem_filter.mpr ⟨List.mem_append_right _ (show w ∈ tables_1 from List.mem_append_right _ (List.mem_append_right _ (List.mem_append_right _ (List.mem_append_left _ (show w ∈ tables_1_4 from by rw [tq_4]; exact List.mem_append_right _ (List.mem_append_right _ (List.mem_append_right _ (List.mem_append_right _ (List.mem_append_right _ (List.mem_append_right _ (List.mem_append_right _ (List.mem_append_right _ (List.mem_append_right _ (List.mem_append_right _ (List.mem_append_right _ (List.mem_append_right _ (List.mem_append_right _ (List.mem_append_right _ (List.mem_append_left _ h))))))))))))))))))), hg⟩
theorem cm_4_15 {w : Cond} (h : w ∈ ch_4_15) (hg : goodWord w = true) : w ∈ tb := List.mem_filter.mpr ⟨List.mem_append_right _ (show w ∈ tables_1 from List.mem_append_right _ (List.mem_append_right _ (List.mem_append_right _ (List.mem_append_left _ (show w ∈ tables_1_4 from by rw [tq_4]; exact List.mem_append_right _ (List.mem_append_right _ (List.mem_append_right _ (List.mem_append_right _ (List.mem_append_right _ (List.mem_append_right _ (List.mem_append_right _ (List.mem_append_right _ (List.mem_append_right _ (List.mem_append_right _ (List.mem_append_right _ (List.mem_append_right _ (List.mem_append_right _ (List.mem_append_right _ (List.mem_append_right _ (List.mem_append_left _ h)))))))))))))))))))), hg⟩
theorem cm_4_16 {w : Cond} (h : w ∈ ch_4_16) (hg : goodWord w = true) : w ∈ tb := List.mem_filter.mpr ⟨List.mem_append_right _ (show w ∈ tables_1 from List.mem_append_right _ (List.mem_append_right _ (List.mem_append_right _ (List.mem_append_left _ (show w ∈ tables_1_4 from by rw [tq_4]; exact List.mem_append_right _ (List.mem_append_right _ (List.mem_append_right _ (List.mem_append_right _ (List.mem_append_right _ (List.mem_append_right _ (List.mem_append_right _ (List.mem_append_right _ (List.mem_append_right _ (List.mem_append_right _ (List.mem_append_right _ (List.mem_append_right _ (List.mem_append_right _ (List.mem_append_right _ (List.mem_append_right _ (List.mem_append_right _ (List.mem_append_left _ h))))))))))))))))))))), hg⟩
theorem cm_4_17 {w : Cond} (h : w ∈ ch_4_17) (hg : goodWord w = true) : w ∈ tb := List.mem_filter.mpr ⟨List.mem_append_right _ (show w ∈ tables_1 from List.mem_append_right _ (List.mem_append_right _ (List.mem_append_right _ (List.mem_append_left _ (show w ∈ tables_1_4 from by rw [tq_4]; exact List.mem_append_right _ (List.mem_append_right _ (List.mem_append_right _ (List.mem_append_right _ (List.mem_append_right _ (List.mem_append_right _ (List.mem_append_right _ (List.mem_append_right _ (List.mem_append_right _ (List.mem_append_right _ (List.mem_append_right _ (List.mem_append_right _ (List.mem_append_right _ (List.mem_append_right _ (List.mem_append_right _ (List.mem_append_right _ (List.mem_append_right _ (List.mem_append_left _ h)))))))))))))))))))))), hg⟩
theorem cm_4_18 {w : Cond} (h : w ∈ ch_4_18) (hg : goodWord w = true) : w ∈ tb := List.mem_filter.mpr ⟨List.mem_append_right _ (show w ∈ tables_1 from List.mem_append_right _ (List.mem_append_right _ (List.mem_append_right _ (List.mem_append_left _ (show w ∈ tables_1_4 from by rw [tq_4]; exact List.mem_append_right _ (List.mem_append_right _ (List.mem_append_right _ (List.mem_append_right _ (List.mem_append_right _ (List.mem_append_right _ (List.mem_append_right _ (List.mem_append_right _ (List.mem_append_right _ (List.mem_append_right _ (List.mem_append_right _ (List.mem_append_right _ (List.mem_append_right _ (List.mem_append_right _ (List.mem_append_right _ (List.mem_append_right _ (List.mem_append_right _ (List.mem_append_right _ (List.mem_append_left _ h))))))))))))))))))))))), hg⟩
theorem cm_4_19 {w : Cond} (h : w ∈ ch_4_19) (hg : goodWord w = true) : w ∈ tb := List.mem_filter.mpr ⟨List.mem_append_right _ (show w ∈ tables_1 from List.mem_append_right _ (List.mem_append_right _ (List.mem_append_right _ (List.mem_append_left _ (show w ∈ tables_1_4 from by rw [tq_4]; exact List.mem_append_right _ (List.mem_append_right _ (List.mem_append_right _ (List.mem_append_right _ (List.mem_append_right _ (List.mem_append_right _ (List.mem_append_right _ (List.mem_append_right _ (List.mem_append_right _ (List.mem_append_right _ (List.mem_append_right _ (List.mem_append_right _ (List.mem_append_right _ (List.mem_append_right _ (List.mem_append_right _ (List.mem_append_right _ (List.mem_append_right _ (List.mem_append_right _ (List.mem_append_right _ (List.mem_append_left _ h)))))))))))))))))))))))), hg⟩
theorem cm_4_20 {w : Cond} (h : w ∈ ch_4_20) (hg : goodWord w = true) : w ∈ tb := List.mem_filter.mpr ⟨List.mem_append_right _ (show w ∈ tables_1 from List.mem_append_right _ (List.mem_append_right _ (List.mem_append_right _ (List.mem_append_left _ (show w ∈ tables_1_4 from by rw [tq_4]; exact List.mem_append_right _ (List.mem_append_right _ (List.mem_append_right _ (List.mem_append_right _ (List.mem_append_right _ (List.mem_append_right _ (List.mem_append_right _ (List.mem_append_right _ (List.mem_append_right _ (List.mem_append_right _ (List.mem_append_right _ (List.mem_append_right _ (List.mem_append_right _ (List.mem_append_right _ (List.mem_append_right _ (List.mem_append_right _ (List.mem_append_right _ (List.mem_append_right _ (List.mem_append_right _ (List.mem_append_right _ (List.mem_append_left _ h))))))))))))))))))))))))), hg⟩
theorem cm_4_21 {w : Cond} (h : w ∈ ch_4_21) (hg : goodWord w = true) : w ∈ tb := List.mem_filter.mpr ⟨List.mem_append_right _ (show w ∈ tables_1 from List.mem_append_right _ (List.mem_append_right _ (List.mem_append_right _ (List.mem_append_left _ (show w ∈ tables_1_4 from by rw [tq_4]; exact List.mem_append_right _ (List.mem_append_right _ (List.mem_append_right _ (List.mem_append_right _ (List.mem_append_right _ (List.mem_append_right _ (List.mem_append_right _ (List.mem_append_right _ (List.mem_append_right _ (List.mem_append_right _ (List.mem_append_right _ (List.mem_append_right _ (List.mem_append_right _ (List.mem_append_right _ (List.mem_append_right _ (List.mem_append_right _ (List.mem_append_right _ (List.mem_append_right _ (List.mem_append_right _ (List.mem_append_right _ (List.mem_append_right _ (List.mem_append_left _ h)))))))))))))))))))))))))), hg⟩
theorem cm_4_22 {w : Cond} (h : w ∈ ch_4_22) (hg : goodWord w = true) : w ∈ tb := List.mem_filter.mpr ⟨List.mem_append_right _ (show w ∈ tables_1 from List.mem_append_right _ (List.mem_append_right _ (List.mem_append_right _ (List.mem_append_left _ (show w ∈ tables_1_4 from by rw [tq_4]; exact List.mem_append_right _ (List.mem_append_right _ (List.mem_append_right _ (List.mem_append_right _ (List.mem_append_right _ (List.mem_append_right _ (List.mem_append_right _ (List.mem_append_right _ (List.mem_append_right _ (List.mem_append_right _ (List.mem_append_right _ (List.mem_append_right _ (List.mem_append_right _ (List.mem_append_right _ (List.mem_append_right _ (List.mem_append_right _ (List.mem_append_right _ (List.mem_append_right _ (List.mem_append_right _ (List.mem_append_right _ (List.mem_append_right _ (List.mem_append_right _ (List.mem_append_left _ h))))))))))))))))))))))))))), hg⟩
theorem cm_4_23 {w : Cond} (h : w ∈ ch_4_23) (hg : goodWord w = true) : w ∈ tb := List.mem_filter.mpr ⟨List.mem_append_right _ (show w ∈ tables_1 from List.mem_append_right _ (List.mem_append_right _ (List.mem_append_right _ (List.mem_append_left _ (show w ∈ tables_1_4 from by rw [tq_4]; exact List.mem_append_right _ (List.mem_append_right _ (List.mem_append_right _ (List.mem_append_right _ (List.mem_append_right _ (List.mem_append_right _ (List.mem_append_right _ (List.mem_append_right _ (List.mem_append_right _ (List.mem_append_right _ (List.mem_append_right _ (List.mem_append_right _ (List.mem_append_right _ (List.mem_append_right _ (List.mem_append_right _ (List.mem_append_right _ (List.mem_append_right _ (List.mem_append_right _ (List.mem_append_right _ (List.mem_append_right _ (List.mem_append_right _ (List.mem_append_right _ (List.mem_append_right _ (h)))))))))))))))))))))))))))), hg⟩
def ch_5_0 : List Cond := [Cond.fieldLink RX9 13 "SeaWatchesModel" "warmths" "[I", Cond.fieldLink RX9 17 "SeaWatchesModel" "kind" "[I", Cond.fieldLink RX9 20 "SeaWatchesModel" "mark" "[I", Cond.fieldLink RX9 23 "SeaWatchesModel" "has" "[Z", Cond.fieldLink RX9 27 "SeaWatchesModel" "errors" "[I", Cond.fieldLink RX9 30 "SeaWatchesModel" "sources" "[I", Cond.fieldLink RX9 33 "SeaWatchesModel" "repaired" "[Z", Cond.fieldLink RX9 36 "SeaWatchesModel" "lateOn" "[Z", Cond.fieldLink RX9 39 "SeaWatchesModel" "holders" "[I", Cond.fieldLink RX9 175 "SeaWatchesModel" "offs" "I"]
def ch_5_1 : List Cond := [Cond.fieldLink RX9 42 "SeaWatchesModel" "offSignal" "[I", Cond.fieldLink RX9 45 "SeaWatchesModel" "offFrom" "[I", Cond.fieldLink RX9 48 "SeaWatchesModel" "offTo" "[I", Cond.fieldLink RX9 51 "SeaWatchesModel" "offBy" "[I", Cond.fieldLink RX9 54 "SeaWatchesModel" "offDay" "[I", Cond.fieldLink RX9 199 "SeaWatchesModel" "many" "J", Cond.fieldLink RX9 203 "SeaWatchesModel" "sumW" "J", Cond.fieldLink RX9 206 "SeaWatchesModel" "sumA" "J", Cond.fieldLink RX9 209 "SeaWatchesModel" "sumR" "J", Cond.fieldLink RX9 212 "SeaWatchesModel" "sumWW" "J"]
def ch_5_2 : List Cond := [Cond.fieldLink RX9 215 "SeaWatchesModel" "sumWA" "J", Cond.fieldLink RX9 218 "SeaWatchesModel" "sumAA" "J", Cond.fieldLink RX9 221 "SeaWatchesModel" "sumWR" "J", Cond.fieldLink RX9 224 "SeaWatchesModel" "sumAR" "J", Cond.fieldLink RX9 256 "SeaWatchesModel" "upper" "J", Cond.fieldLink RX9 253 "SeaWatchesModel" "lower" "J", Cond.fieldLink RX9 278 "SeaWatchesModel" "rates" "I", Cond.fieldLink RX9 57 "SeaWatchesModel" "rateDay" "[I", Cond.fieldLink RX9 60 "SeaWatchesModel" "rate" "[I", Cond.fieldLink RX9 63 "SeaWatchesModel" "sorted" "[I"]
def ch_5_3 : List Cond := [Cond.fieldLink RX9 66 "SeaWatchesModel" "tape" "[B", Cond.fieldLink RX9 284 "SeaWatchesModel" "taped" "I", Cond.fieldLink RX9 70 "SeaWatchesModel" "hasRule" "[Z", Cond.fieldLink RX9 73 "SeaWatchesModel" "ruleSize" "[I", Cond.fieldLink RX9 76 "SeaWatchesModel" "step" "[I", Cond.fieldLink RX9 79 "SeaWatchesModel" "number" "[I", Cond.fieldLink RX9 348 "SeaWatchesModel" "laid" "I", Cond.fieldLink RX9 287 "SeaWatchesModel" "at" "I", Cond.fieldLink RX9 293 "SeaWatchesModel" "tk" "I", Cond.fieldLink RX9 290 "SeaWatchesModel" "tkAt" "I"]
def ch_5_4 : List Cond := [Cond.fieldLink RX9 310 "SeaWatchesModel" "tkNumber" "I", Cond.fieldLink RX9 82 "SeaWatchesModel" "wait" "[I", Cond.fieldLink RX9 351 "SeaWatchesModel" "waits" "I", Cond.fieldLink RX9 85 "SeaWatchesModel" "pile" "[I", Cond.fieldLink RX9 88 "SeaWatchesModel" "named" "[I", Cond.fieldLink RX9 91 "SeaWatchesModel" "shipState" "[I", Cond.fieldLink RX9 94 "SeaWatchesModel" "sailedOn" "[I", Cond.fieldLink RX9 97 "SeaWatchesModel" "backAfter" "[I", Cond.fieldLink RX9 100 "SeaWatchesModel" "carriedAt" "[I", Cond.fieldLink RX9 103 "SeaWatchesModel" "start" "[I"]
def ch_5_5 : List Cond := [Cond.fieldLink RX9 106 "SeaWatchesModel" "going" "[I", Cond.fieldLink RX9 109 "SeaWatchesModel" "doubts" "[I", Cond.fieldLink RX9 112 "SeaWatchesModel" "backError" "[I", Cond.fieldLink RX9 115 "SeaWatchesModel" "sights" "[I", Cond.fieldLink RX9 118 "SeaWatchesModel" "sightDay" "[I", Cond.fieldLink RX9 121 "SeaWatchesModel" "shown" "[I", Cond.fieldLink RX9 124 "SeaWatchesModel" "asks" "[I", Cond.fieldLink RX9 127 "SeaWatchesModel" "times" "[I", Cond.fieldLink RX9 130 "SeaWatchesModel" "widths" "[I", Cond.fieldLink RX9 406 "SeaWatchesModel" "listed" "I"]
def ch_5_6 : List Cond := [Cond.fieldLink RX9 133 "SeaWatchesModel" "list" "[I", Cond.fieldLink RX9 136 "SeaWatchesModel" "dealt" "[I", Cond.fieldLink RX9 415 "SeaWatchesModel" "dealtMany" "I", Cond.fieldLink RX9 139 "SeaWatchesModel" "way" "[I", Cond.fieldLink RX9 142 "SeaWatchesModel" "dealDays" "[I", Cond.fieldLink RX9 145 "SeaWatchesModel" "given" "[I", (Jvm.Cond.lays "SeaWatchesModel" "SeaWatchesModel" "code" "I"), (Jvm.Cond.soleField "SeaWatchesModel" "code"), (Jvm.Cond.lays "SeaWatchesModel" "SeaWatchesModel" "today" "I"), (Jvm.Cond.soleField "SeaWatchesModel" "today")]
def ch_5_7 : List Cond := [(Jvm.Cond.laysFinal "SeaWatchesModel" "SeaWatchesModel" "warmths" "[I"), (Jvm.Cond.soleField "SeaWatchesModel" "warmths"), (Jvm.Cond.laysFinal "SeaWatchesModel" "SeaWatchesModel" "kind" "[I"), (Jvm.Cond.soleField "SeaWatchesModel" "kind"), (Jvm.Cond.laysFinal "SeaWatchesModel" "SeaWatchesModel" "mark" "[I"), (Jvm.Cond.soleField "SeaWatchesModel" "mark"), (Jvm.Cond.laysFinal "SeaWatchesModel" "SeaWatchesModel" "has" "[Z"), (Jvm.Cond.soleField "SeaWatchesModel" "has"), (Jvm.Cond.laysFinal "SeaWatchesModel" "SeaWatchesModel" "errors" "[I"), (Jvm.Cond.soleField "SeaWatchesModel" "errors")]
def ch_5_8 : List Cond := [(Jvm.Cond.laysFinal "SeaWatchesModel" "SeaWatchesModel" "sources" "[I"), (Jvm.Cond.soleField "SeaWatchesModel" "sources"), (Jvm.Cond.laysFinal "SeaWatchesModel" "SeaWatchesModel" "repaired" "[Z"), (Jvm.Cond.soleField "SeaWatchesModel" "repaired"), (Jvm.Cond.laysFinal "SeaWatchesModel" "SeaWatchesModel" "lateOn" "[Z"), (Jvm.Cond.soleField "SeaWatchesModel" "lateOn"), (Jvm.Cond.laysFinal "SeaWatchesModel" "SeaWatchesModel" "holders" "[I"), (Jvm.Cond.soleField "SeaWatchesModel" "holders"), (Jvm.Cond.lays "SeaWatchesModel" "SeaWatchesModel" "offs" "I"), (Jvm.Cond.soleField "SeaWatchesModel" "offs")]
def ch_5_9 : List Cond := [(Jvm.Cond.laysFinal "SeaWatchesModel" "SeaWatchesModel" "offSignal" "[I"), (Jvm.Cond.soleField "SeaWatchesModel" "offSignal"), (Jvm.Cond.laysFinal "SeaWatchesModel" "SeaWatchesModel" "offFrom" "[I"), (Jvm.Cond.soleField "SeaWatchesModel" "offFrom"), (Jvm.Cond.laysFinal "SeaWatchesModel" "SeaWatchesModel" "offTo" "[I"), (Jvm.Cond.soleField "SeaWatchesModel" "offTo"), (Jvm.Cond.laysFinal "SeaWatchesModel" "SeaWatchesModel" "offBy" "[I"), (Jvm.Cond.soleField "SeaWatchesModel" "offBy"), (Jvm.Cond.laysFinal "SeaWatchesModel" "SeaWatchesModel" "offDay" "[I"), (Jvm.Cond.soleField "SeaWatchesModel" "offDay")]
def ch_5_10 : List Cond := [(Jvm.Cond.lays "SeaWatchesModel" "SeaWatchesModel" "many" "J"), (Jvm.Cond.soleField "SeaWatchesModel" "many"), (Jvm.Cond.lays "SeaWatchesModel" "SeaWatchesModel" "sumW" "J"), (Jvm.Cond.soleField "SeaWatchesModel" "sumW"), (Jvm.Cond.lays "SeaWatchesModel" "SeaWatchesModel" "sumA" "J"), (Jvm.Cond.soleField "SeaWatchesModel" "sumA"), (Jvm.Cond.lays "SeaWatchesModel" "SeaWatchesModel" "sumR" "J"), (Jvm.Cond.soleField "SeaWatchesModel" "sumR"), (Jvm.Cond.lays "SeaWatchesModel" "SeaWatchesModel" "sumWW" "J"), (Jvm.Cond.soleField "SeaWatchesModel" "sumWW")]
def ch_5_11 : List Cond := [(Jvm.Cond.lays "SeaWatchesModel" "SeaWatchesModel" "sumWA" "J"), (Jvm.Cond.soleField "SeaWatchesModel" "sumWA"), (Jvm.Cond.lays "SeaWatchesModel" "SeaWatchesModel" "sumAA" "J"), (Jvm.Cond.soleField "SeaWatchesModel" "sumAA"), (Jvm.Cond.lays "SeaWatchesModel" "SeaWatchesModel" "sumWR" "J"), (Jvm.Cond.soleField "SeaWatchesModel" "sumWR"), (Jvm.Cond.lays "SeaWatchesModel" "SeaWatchesModel" "sumAR" "J"), (Jvm.Cond.soleField "SeaWatchesModel" "sumAR"), (Jvm.Cond.lays "SeaWatchesModel" "SeaWatchesModel" "upper" "J"), (Jvm.Cond.soleField "SeaWatchesModel" "upper")]
def ch_5_12 : List Cond := [(Jvm.Cond.lays "SeaWatchesModel" "SeaWatchesModel" "lower" "J"), (Jvm.Cond.soleField "SeaWatchesModel" "lower"), (Jvm.Cond.lays "SeaWatchesModel" "SeaWatchesModel" "rates" "I"), (Jvm.Cond.soleField "SeaWatchesModel" "rates"), (Jvm.Cond.laysFinal "SeaWatchesModel" "SeaWatchesModel" "rateDay" "[I"), (Jvm.Cond.soleField "SeaWatchesModel" "rateDay"), (Jvm.Cond.laysFinal "SeaWatchesModel" "SeaWatchesModel" "rate" "[I"), (Jvm.Cond.soleField "SeaWatchesModel" "rate"), (Jvm.Cond.laysFinal "SeaWatchesModel" "SeaWatchesModel" "sorted" "[I"), (Jvm.Cond.soleField "SeaWatchesModel" "sorted")]
def ch_5_13 : List Cond := [(Jvm.Cond.laysFinal "SeaWatchesModel" "SeaWatchesModel" "tape" "[B"), (Jvm.Cond.soleField "SeaWatchesModel" "tape"), (Jvm.Cond.lays "SeaWatchesModel" "SeaWatchesModel" "taped" "I"), (Jvm.Cond.soleField "SeaWatchesModel" "taped"), (Jvm.Cond.laysFinal "SeaWatchesModel" "SeaWatchesModel" "hasRule" "[Z"), (Jvm.Cond.soleField "SeaWatchesModel" "hasRule"), (Jvm.Cond.laysFinal "SeaWatchesModel" "SeaWatchesModel" "ruleSize" "[I"), (Jvm.Cond.soleField "SeaWatchesModel" "ruleSize"), (Jvm.Cond.laysFinal "SeaWatchesModel" "SeaWatchesModel" "step" "[I"), (Jvm.Cond.soleField "SeaWatchesModel" "step")]
def ch_5_14 : List Cond := [(Jvm.Cond.laysFinal "SeaWatchesModel" "SeaWatchesModel" "number" "[I"), (Jvm.Cond.soleField "SeaWatchesModel" "number"), (Jvm.Cond.lays "SeaWatchesModel" "SeaWatchesModel" "laid" "I"), (Jvm.Cond.soleField "SeaWatchesModel" "laid"), (Jvm.Cond.lays "SeaWatchesModel" "SeaWatchesModel" "at" "I"), (Jvm.Cond.soleField "SeaWatchesModel" "at"), (Jvm.Cond.lays "SeaWatchesModel" "SeaWatchesModel" "tk" "I"), (Jvm.Cond.soleField "SeaWatchesModel" "tk"), (Jvm.Cond.lays "SeaWatchesModel" "SeaWatchesModel" "tkAt" "I"), (Jvm.Cond.soleField "SeaWatchesModel" "tkAt")]
def ch_5_15 : List Cond := [(Jvm.Cond.lays "SeaWatchesModel" "SeaWatchesModel" "tkNumber" "I"), (Jvm.Cond.soleField "SeaWatchesModel" "tkNumber"), (Jvm.Cond.laysFinal "SeaWatchesModel" "SeaWatchesModel" "wait" "[I"), (Jvm.Cond.soleField "SeaWatchesModel" "wait"), (Jvm.Cond.lays "SeaWatchesModel" "SeaWatchesModel" "waits" "I"), (Jvm.Cond.soleField "SeaWatchesModel" "waits"), (Jvm.Cond.laysFinal "SeaWatchesModel" "SeaWatchesModel" "pile" "[I"), (Jvm.Cond.soleField "SeaWatchesModel" "pile"), (Jvm.Cond.laysFinal "SeaWatchesModel" "SeaWatchesModel" "named" "[I"), (Jvm.Cond.soleField "SeaWatchesModel" "named")]
def ch_5_16 : List Cond := [(Jvm.Cond.laysFinal "SeaWatchesModel" "SeaWatchesModel" "shipState" "[I"), (Jvm.Cond.soleField "SeaWatchesModel" "shipState"), (Jvm.Cond.laysFinal "SeaWatchesModel" "SeaWatchesModel" "sailedOn" "[I"), (Jvm.Cond.soleField "SeaWatchesModel" "sailedOn"), (Jvm.Cond.laysFinal "SeaWatchesModel" "SeaWatchesModel" "backAfter" "[I"), (Jvm.Cond.soleField "SeaWatchesModel" "backAfter"), (Jvm.Cond.laysFinal "SeaWatchesModel" "SeaWatchesModel" "carriedAt" "[I"), (Jvm.Cond.soleField "SeaWatchesModel" "carriedAt"), (Jvm.Cond.laysFinal "SeaWatchesModel" "SeaWatchesModel" "start" "[I"), (Jvm.Cond.soleField "SeaWatchesModel" "start")]
def ch_5_17 : List Cond := [(Jvm.Cond.laysFinal "SeaWatchesModel" "SeaWatchesModel" "going" "[I"), (Jvm.Cond.soleField "SeaWatchesModel" "going"), (Jvm.Cond.laysFinal "SeaWatchesModel" "SeaWatchesModel" "doubts" "[I"), (Jvm.Cond.soleField "SeaWatchesModel" "doubts"), (Jvm.Cond.laysFinal "SeaWatchesModel" "SeaWatchesModel" "backError" "[I"), (Jvm.Cond.soleField "SeaWatchesModel" "backError"), (Jvm.Cond.laysFinal "SeaWatchesModel" "SeaWatchesModel" "sights" "[I"), (Jvm.Cond.soleField "SeaWatchesModel" "sights"), (Jvm.Cond.laysFinal "SeaWatchesModel" "SeaWatchesModel" "sightDay" "[I"), (Jvm.Cond.soleField "SeaWatchesModel" "sightDay")]
def ch_5_18 : List Cond := [(Jvm.Cond.laysFinal "SeaWatchesModel" "SeaWatchesModel" "shown" "[I"), (Jvm.Cond.soleField "SeaWatchesModel" "shown"), (Jvm.Cond.laysFinal "SeaWatchesModel" "SeaWatchesModel" "asks" "[I"), (Jvm.Cond.soleField "SeaWatchesModel" "asks"), (Jvm.Cond.laysFinal "SeaWatchesModel" "SeaWatchesModel" "times" "[I"), (Jvm.Cond.soleField "SeaWatchesModel" "times"), (Jvm.Cond.laysFinal "SeaWatchesModel" "SeaWatchesModel" "widths" "[I"), (Jvm.Cond.soleField "SeaWatchesModel" "widths"), (Jvm.Cond.lays "SeaWatchesModel" "SeaWatchesModel" "listed" "I"), (Jvm.Cond.soleField "SeaWatchesModel" "listed")]
def ch_5_19 : List Cond := [(Jvm.Cond.laysFinal "SeaWatchesModel" "SeaWatchesModel" "list" "[I"), (Jvm.Cond.soleField "SeaWatchesModel" "list"), (Jvm.Cond.laysFinal "SeaWatchesModel" "SeaWatchesModel" "dealt" "[I"), (Jvm.Cond.soleField "SeaWatchesModel" "dealt"), (Jvm.Cond.lays "SeaWatchesModel" "SeaWatchesModel" "dealtMany" "I"), (Jvm.Cond.soleField "SeaWatchesModel" "dealtMany"), (Jvm.Cond.laysFinal "SeaWatchesModel" "SeaWatchesModel" "way" "[I"), (Jvm.Cond.soleField "SeaWatchesModel" "way"), (Jvm.Cond.laysFinal "SeaWatchesModel" "SeaWatchesModel" "dealDays" "[I"), (Jvm.Cond.soleField "SeaWatchesModel" "dealDays")]
def ch_5_20 : List Cond := [(Jvm.Cond.laysFinal "SeaWatchesModel" "SeaWatchesModel" "given" "[I"), (Jvm.Cond.soleField "SeaWatchesModel" "given"), (Jvm.Cond.superclass "SeaWatchesModel" "java/lang/Object"), Cond.arrayClass .boolean, Cond.methodLink R_law 17 yX9_days, Cond.instanceMethod yX9_days, Cond.selects RX9 yX9_days yX9_days, Cond.code yX9_days cX9_days 4 (some .int), Cond.methodLink RX9 148 yX9_in, Cond.static yX9_in]
def ch_5_21 : List Cond := [Cond.code yX9_in cX9_in 3 (some .boolean), Cond.methodLink R_law 22 yX9_warmth, Cond.instanceMethod yX9_warmth, Cond.selects RX9 yX9_warmth yX9_warmth, Cond.code yX9_warmth cX9_warmth 3 (some .int), Cond.methodLink RX9 159 yX9_isDay, Cond.static yX9_isDay, Cond.code yX9_isDay cX9_isDay 1 (some .boolean), Cond.methodLink R_law 27 yX9_put, Cond.instanceMethod yX9_put]
def ch_5_22 : List Cond := [Cond.selects RX9 yX9_put yX9_put, Cond.code yX9_put cX9_put 5 (some .int), Cond.methodLink RX9 152 yX9_isPlace, Cond.static yX9_isPlace, Cond.code yX9_isPlace cX9_isPlace 1 (some .boolean), Cond.methodLink R_law 31 yX9_take, Cond.instanceMethod yX9_take, Cond.selects RX9 yX9_take yX9_take, Cond.code yX9_take cX9_take 2 (some .int), Cond.methodLink RX9 162 yX9_isWatch]
def ch_5_23 : List Cond := [(Jvm.Cond.privateMethod ({ cls := "SeaWatchesModel", name := "isWatch", desc := "(I)Z" } : Jvm.MethodName)), Cond.instanceMethod yX9_isWatch, Cond.code yX9_isWatch cX9_isWatch 2 (some .boolean), Cond.methodLink RX9 165 yX9_holderNow, (Jvm.Cond.privateMethod ({ cls := "SeaWatchesModel", name := "holderNow", desc := "(I)I" } : Jvm.MethodName)), Cond.instanceMethod yX9_holderNow, Cond.code yX9_holderNow cX9_holderNow 2 (some .int), Cond.methodLink R_law 35 yX9_holds, Cond.instanceMethod yX9_holds, Cond.selects RX9 yX9_holds yX9_holds]
set_option maxRecDepth 100000 in
theorem tq_5 : tables_1_5 = ch_5_0 ++ (ch_5_1 ++ (ch_5_2 ++ (ch_5_3 ++ (ch_5_4 ++ (ch_5_5 ++ (ch_5_6 ++ (ch_5_7 ++ (ch_5_8 ++ (ch_5_9 ++ (ch_5_10 ++ (ch_5_11 ++ (ch_5_12 ++ (ch_5_13 ++ (ch_5_14 ++ (ch_5_15 ++ (ch_5_16 ++ (ch_5_17 ++ (ch_5_18 ++ (ch_5_19 ++ (ch_5_20 ++ (ch_5_21 ++ (ch_5_22 ++ (ch_5_23))))))))))))))))))))))) := rfl
theorem cm_5_0 {w : Cond} (h : w ∈ ch_5_0) (hg : goodWord w = true) : w ∈ tb := List.mem_filter.mpr ⟨List.mem_append_right _ (show w ∈ tables_1 from List.mem_append_right _ (List.mem_append_right _ (List.mem_append_right _ (List.mem_append_right _ (List.mem_append_left _ (show w ∈ tables_1_5 from by rw [tq_5]; exact List.mem_append_left _ h)))))), hg⟩
theorem cm_5_1 {w : Cond} (h : w ∈ ch_5_1) (hg : goodWord w = true) : w ∈ tb := List.mem_filter.mpr ⟨List.mem_append_right _ (show w ∈ tables_1 from List.mem_append_right _ (List.mem_append_right _ (List.mem_append_right _ (List.mem_append_right _ (List.mem_append_left _ (show w ∈ tables_1_5 from by rw [tq_5]; exact List.mem_append_right _ (List.mem_append_left _ h))))))), hg⟩
theorem cm_5_2 {w : Cond} (h : w ∈ ch_5_2) (hg : goodWord w = true) : w ∈ tb := List.mem_filter.mpr ⟨List.mem_append_right _ (show w ∈ tables_1 from List.mem_append_right _ (List.mem_append_right _ (List.mem_append_right _ (List.mem_append_right _ (List.mem_append_left _ (show w ∈ tables_1_5 from by rw [tq_5]; exact List.mem_append_right _ (List.mem_append_right _ (List.mem_append_left _ h)))))))), hg⟩
theorem cm_5_3 {w : Cond} (h : w ∈ ch_5_3) (hg : goodWord w = true) : w ∈ tb := List.mem_filter.mpr ⟨List.mem_append_right _ (show w ∈ tables_1 from List.mem_append_right _ (List.mem_append_right _ (List.mem_append_right _ (List.mem_append_right _ (List.mem_append_left _ (show w ∈ tables_1_5 from by rw [tq_5]; exact List.mem_append_right _ (List.mem_append_right _ (List.mem_append_right _ (List.mem_append_left _ h))))))))), hg⟩
theorem cm_5_4 {w : Cond} (h : w ∈ ch_5_4) (hg : goodWord w = true) : w ∈ tb := List.mem_filter.mpr ⟨List.mem_append_right _ (show w ∈ tables_1 from List.mem_append_right _ (List.mem_append_right _ (List.mem_append_right _ (List.mem_append_right _ (List.mem_append_left _ (show w ∈ tables_1_5 from by rw [tq_5]; exact List.mem_append_right _ (List.mem_append_right _ (List.mem_append_right _ (List.mem_append_right _ (List.mem_append_left _ h)))))))))), hg⟩
theorem cm_5_5 {w : Cond} (h : w ∈ ch_5_5) (hg : goodWord w = true) : w ∈ tb := List.mem_filter.mpr ⟨List.mem_append_right _ (show w ∈ tables_1 from List.mem_append_right _ (List.mem_append_right _ (List.mem_append_right _ (List.mem_append_right _ (List.mem_append_left _ (show w ∈ tables_1_5 from by rw [tq_5]; exact List.mem_append_right _ (List.mem_append_right _ (List.mem_append_right _ (List.mem_append_right _ (List.mem_append_right _ (List.mem_append_left _ h))))))))))), hg⟩
theorem cm_5_6 {w : Cond} (h : w ∈ ch_5_6) (hg : goodWord w = true) : w ∈ tb := List.mem_filter.mpr ⟨List.mem_append_right _ (show w ∈ tables_1 from List.mem_append_right _ (List.mem_append_right _ (List.mem_append_right _ (List.mem_append_right _ (List.mem_append_left _ (show w ∈ tables_1_5 from by rw [tq_5]; exact List.mem_append_right _ (List.mem_append_right _ (List.mem_append_right _ (List.mem_append_right _ (List.mem_append_right _ (List.mem_append_right _ (List.mem_append_left _ h)))))))))))), hg⟩
theorem cm_5_7 {w : Cond} (h : w ∈ ch_5_7) (hg : goodWord w = true) : w ∈ tb := List.mem_filter.mpr ⟨List.mem_append_right _ (show w ∈ tables_1 from List.mem_append_right _ (List.mem_append_right _ (List.mem_append_right _ (List.mem_append_right _ (List.mem_append_left _ (show w ∈ tables_1_5 from by rw [tq_5]; exact List.mem_append_right _ (List.mem_append_right _ (List.mem_append_right _ (List.mem_append_right _ (List.mem_append_right _ (List.mem_append_right _ (List.mem_append_right _ (List.mem_append_left _ h))))))))))))), hg⟩
theorem cm_5_8 {w : Cond} (h : w ∈ ch_5_8) (hg : goodWord w = true) : w ∈ tb := List.mem_filter.mpr ⟨List.mem_append_right _ (show w ∈ tables_1 from List.mem_append_right _ (List.mem_append_right _ (List.mem_append_right _ (List.mem_append_right _ (List.mem_append_left _ (show w ∈ tables_1_5 from by rw [tq_5]; exact List.mem_append_right _ (List.mem_append_right _ (List.mem_append_right _ (List.mem_append_right _ (List.mem_append_right _ (List.mem_append_right _ (List.mem_append_right _ (List.mem_append_right _ (List.mem_append_left _ h)))))))))))))), hg⟩
theorem cm_5_9 {w : Cond} (h : w ∈ ch_5_9) (hg : goodWord w = true) : w ∈ tb := List.mem_filter.mpr ⟨List.mem_append_right _ (show w ∈ tables_1 from List.mem_append_right _ (List.mem_append_right _ (List.mem_append_right _ (List.mem_append_right _ (List.mem_append_left _ (show w ∈ tables_1_5 from by rw [tq_5]; exact List.mem_append_right _ (List.mem_append_right _ (List.mem_append_right _ (List.mem_append_right _ (List.mem_append_right _ (List.mem_append_right _ (List.mem_append_right _ (List.mem_append_right _ (List.mem_append_right _ (List.mem_append_left _ h))))))))))))))), hg⟩
theorem cm_5_10 {w : Cond} (h : w ∈ ch_5_10) (hg : goodWord w = true) : w ∈ tb := List.mem_filter.mpr ⟨List.mem_append_right _ (show w ∈ tables_1 from List.mem_append_right _ (List.mem_append_right _ (List.mem_append_right _ (List.mem_append_right _ (List.mem_append_left _ (show w ∈ tables_1_5 from by rw [tq_5]; exact List.mem_append_right _ (List.mem_append_right _ (List.mem_append_right _ (List.mem_append_right _ (List.mem_append_right _ (List.mem_append_right _ (List.mem_append_right _ (List.mem_append_right _ (List.mem_append_right _ (List.mem_append_right _ (List.mem_append_left _ h)))))))))))))))), hg⟩
theorem cm_5_11 {w : Cond} (h : w ∈ ch_5_11) (hg : goodWord w = true) : w ∈ tb := List.mem_filter.mpr ⟨List.mem_append_right _ (show w ∈ tables_1 from List.mem_append_right _ (List.mem_append_right _ (List.mem_append_right _ (List.mem_append_right _ (List.mem_append_left _ (show w ∈ tables_1_5 from by rw [tq_5]; exact List.mem_append_right _ (List.mem_append_right _ (List.mem_append_right _ (List.mem_append_right _ (List.mem_append_right _ (List.mem_append_right _ (List.mem_append_right _ (List.mem_append_right _ (List.mem_append_right _ (List.mem_append_right _ (List.mem_append_right _ (List.mem_append_left _ h))))))))))))))))), hg⟩
theorem cm_5_12 {w : Cond} (h : w ∈ ch_5_12) (hg : goodWord w = true) : w ∈ tb := List.mem_filter.mpr ⟨List.mem_append_right _ (show w ∈ tables_1 from List.mem_append_right _ (List.mem_append_right _ (List.mem_append_right _ (List.mem_append_right _ (List.mem_append_left _ (show w ∈ tables_1_5 from by rw [tq_5]; exact List.mem_append_right _ (List.mem_append_right _ (List.mem_append_right _ (List.mem_append_right _ (List.mem_append_right _ (List.mem_append_right _ (List.mem_append_right _ (List.mem_append_right _ (List.mem_append_right _ (List.mem_append_right _ (List.mem_append_right _ (List.mem_append_right _ (List.mem_append_left _ h)))))))))))))))))), hg⟩
theorem cm_5_13 {w : Cond} (h : w ∈ ch_5_13) (hg : goodWord w = true) : w ∈ tb := List.mem_filter.mpr ⟨List.mem_append_right _ (show w ∈ tables_1 from List.mem_append_right _ (List.mem_append_right _ (List.mem_append_right _ (List.mem_append_right _ (List.mem_append_left _ (show w ∈ tables_1_5 from by rw [tq_5]; exact List.mem_append_right _ (List.mem_append_right _ (List.mem_append_right _ (List.mem_append_right _ (List.mem_append_right _ (List.mem_append_right _ (List.mem_append_right _ (List.mem_append_right _ (List.mem_append_right _ (List.mem_append_right _ (List.mem_append_right _ (List.mem_append_right _ (List.mem_append_right _ (List.mem_append_left _ h))))))))))))))))))), hg⟩
theorem cm_5_14 {w : Cond} (h : w ∈ ch_5_14) (hg : goodWord w = true) : w ∈ tb := List.mem_filter.mpr ⟨List.mem_append_right _ (show w ∈ tables_1 from List.mem_append_right _ (List.mem_append_right _ (List.mem_append_right _ (List.mem_append_right _ (List.mem_append_left _ (show w ∈ tables_1_5 from by rw [tq_5]; exact List.mem_append_right _ (List.mem_append_right _ (List.mem_append_right _ (List.mem_append_right _ (List.mem_append_right _ (List.mem_append_right _ (List.mem_append_right _ (List.mem_append_right _ (List.mem_append_right _ (List.mem_append_right _ (List.mem_append_right _ (List.mem_append_right _ (List.mem_append_right _ (List.mem_append_right _ (List.mem_append_left _ h)))))))))))))))))))), hg⟩
theorem cm_5_15 {w : Cond} (h : w ∈ ch_5_15) (hg : goodWord w = true) : w ∈ tb := List.mem_filter.mpr ⟨List.mem_append_right _ (show w ∈ tables_1 from List.mem_append_right _ (List.mem_append_right _ (List.mem_append_right _ (List.mem_append_right _ (List.mem_append_left _ (show w ∈ tables_1_5 from by rw [tq_5]; exact List.mem_append_right _ (List.mem_append_right _ (List.mem_append_right _ (List.mem_append_right _ (List.mem_append_right _ (List.mem_append_right _ (List.mem_append_right _ (List.mem_append_right _ (List.mem_append_right _ (List.mem_append_right _ (List.mem_append_right _ (List.mem_append_right _ (List.mem_append_right _ (List.mem_append_right _ (List.mem_append_right _ (List.mem_append_left _ h))))))))))))))))))))), hg⟩
theorem cm_5_16 {w : Cond} (h : w ∈ ch_5_16) (hg : goodWord w = true) : w ∈ tb := List.mem_filter.mpr ⟨List.mem_append_right _ (show w ∈ tables_1 from List.mem_append_right _ (List.mem_append_right _ (List.mem_append_right _ (List.mem_append_right _ (List.mem_append_left _ (show w ∈ tables_1_5 from by rw [tq_5]; exact List.mem_append_right _ (List.mem_append_right _ (List.mem_append_right _ (List.mem_append_right _ (List.mem_append_right _ (List.mem_append_right _ (List.mem_append_right _ (List.mem_append_right _ (List.mem_append_right _ (List.mem_append_right _ (List.mem_append_right _ (List.mem_append_right _ (List.mem_append_right _ (List.mem_append_right _ (List.mem_append_right _ (List.mem_append_right _ (List.mem_append_left _ h)))))))))))))))))))))), hg⟩
theorem cm_5_17 {w : Cond} (h : w ∈ ch_5_17) (hg : goodWord w = true) : w ∈ tb := List.mem_filter.mpr ⟨List.mem_append_right _ (show w ∈ tables_1 from List.mem_append_right _ (List.mem_append_right _ (List.mem_append_right _ (List.mem_append_right _ (List.mem_append_left _ (show w ∈ tables_1_5 from by rw [tq_5]; exact List.mem_append_right _ (List.mem_append_right _ (List.mem_append_right _ (List.mem_append_right _ (List.mem_append_right _ (List.mem_append_right _ (List.mem_append_right _ (List.mem_append_right _ (List.mem_append_right _ (List.mem_append_right _ (List.mem_append_right _ (List.mem_append_right _ (List.mem_append_right _ (List.mem_append_right _ (List.mem_append_right _ (List.mem_append_right _ (List.mem_append_right _ (List.mem_append_left _ h))))))))))))))))))))))), hg⟩
theorem cm_5_18 {w : Cond} (h : w ∈ ch_5_18) (hg : goodWord w = true) : w ∈ tb := List.mem_filter.mpr ⟨List.mem_append_right _ (show w ∈ tables_1 from List.mem_append_right _ (List.mem_append_right _ (List.mem_append_right _ (List.mem_append_right _ (List.mem_append_left _ (show w ∈ tables_1_5 from by rw [tq_5]; exact List.mem_append_right _ (List.mem_append_right _ (List.mem_append_right _ (List.mem_append_right _ (List.mem_append_right _ (List.mem_append_right _ (List.mem_append_right _ (List.mem_append_right _ (List.mem_append_right _ (List.mem_append_right _ (List.mem_append_right _ (List.mem_append_right _ (List.mem_append_right _ (List.mem_append_right _ (List.mem_append_right _ (List.mem_append_right _ (List.mem_append_right _ (List.mem_append_right _ (List.mem_append_left _ h)))))))))))))))))))))))), hg⟩
theorem cm_5_19 {w : Cond} (h : w ∈ ch_5_19) (hg : goodWord w = true) : w ∈ tb := List.mem_filter.mpr ⟨List.mem_append_right _ (show w ∈ tables_1 from List.mem_append_right _ (List.mem_append_right _ (List.mem_append_right _ (List.mem_append_right _ (List.mem_append_left _ (show w ∈ tables_1_5 from by rw [tq_5]; exact List.mem_append_right _ (List.mem_append_right _ (List.mem_append_right _ (List.mem_append_right _ (List.mem_append_right _ (List.mem_append_right _ (List.mem_append_right _ (List.mem_append_right _ (List.mem_append_right _ (List.mem_append_right _ (List.mem_append_right _ (List.mem_append_right _ (List.mem_append_right _ (List.mem_append_right _ (List.mem_append_right _ (List.mem_append_right _ (List.mem_append_right _ (List.mem_append_right _ (List.mem_append_right _ (List.mem_append_left _ h))))))))))))))))))))))))), hg⟩
theorem cm_5_20 {w : Cond} (h : w ∈ ch_5_20) (hg : goodWord w = true) : w ∈ tb := List.mem_filter.mpr ⟨List.mem_append_right _ (show w ∈ tables_1 from List.mem_append_right _ (List.mem_append_right _ (List.mem_append_right _ (List.mem_append_right _ (List.mem_append_left _ (show w ∈ tables_1_5 from by rw [tq_5]; exact List.mem_append_right _ (List.mem_append_right _ (List.mem_append_right _ (List.mem_append_right _ (List.mem_append_right _ (List.mem_append_right _ (List.mem_append_right _ (List.mem_append_right _ (List.mem_append_right _ (List.mem_append_right _ (List.mem_append_right _ (List.mem_append_right _ (List.mem_append_right _ (List.mem_append_right _ (List.mem_append_right _ (List.mem_append_right _ (List.mem_append_right _ (List.mem_append_right _ (List.mem_append_right _ (List.mem_append_right _ (List.mem_append_left _ h)))))))))))))))))))))))))), hg⟩
theorem cm_5_21 {w : Cond} (h : w ∈ ch_5_21) (hg : goodWord w = true) : w ∈ tb := List.mem_filter.mpr ⟨List.mem_append_right _ (show w ∈ tables_1 from List.mem_append_right _ (List.mem_append_right _ (List.mem_append_right _ (List.mem_append_right _ (List.mem_append_left _ (show w ∈ tables_1_5 from by rw [tq_5]; exact List.mem_append_right _ (List.mem_append_right _ (List.mem_append_right _ (List.mem_append_right _ (List.mem_append_right _ (List.mem_append_right _ (List.mem_append_right _ (List.mem_append_right _ (List.mem_append_right _ (List.mem_append_right _ (List.mem_append_right _ (List.mem_append_right _ (List.mem_append_right _ (List.mem_append_right _ (List.mem_append_right _ (List.mem_append_right _ (List.mem_append_right _ (List.mem_append_right _ (List.mem_append_right _ (List.mem_append_right _ (List.mem_append_right _ (List.mem_append_left _ h))))))))))))))))))))))))))), hg⟩
theorem cm_5_22 {w : Cond} (h : w ∈ ch_5_22) (hg : goodWord w = true) : w ∈ tb := List.mem_filter.mpr ⟨List.mem_append_right _ (show w ∈ tables_1 from List.mem_append_right _ (List.mem_append_right _ (List.mem_append_right _ (List.mem_append_right _ (List.mem_append_left _ (show w ∈ tables_1_5 from by rw [tq_5]; exact List.mem_append_right _ (List.mem_append_right _ (List.mem_append_right _ (List.mem_append_right _ (List.mem_append_right _ (List.mem_append_right _ (List.mem_append_right _ (List.mem_append_right _ (List.mem_append_right _ (List.mem_append_right _ (List.mem_append_right _ (List.mem_append_right _ (List.mem_append_right _ (List.mem_append_right _ (List.mem_append_right _ (List.mem_append_right _ (List.mem_append_right _ (List.mem_append_right _ (List.mem_append_right _ (List.mem_append_right _ (List.mem_append_right _ (List.mem_append_right _ (List.mem_append_left _ h)))))))))))))))))))))))))))), hg⟩
theorem cm_5_23 {w : Cond} (h : w ∈ ch_5_23) (hg : goodWord w = true) : w ∈ tb := List.mem_filter.mpr ⟨List.mem_append_right _ (show w ∈ tables_1 from List.mem_append_right _ (List.mem_append_right _ (List.mem_append_right _ (List.mem_append_right _ (List.mem_append_left _ (show w ∈ tables_1_5 from by rw [tq_5]; exact List.mem_append_right _ (List.mem_append_right _ (List.mem_append_right _ (List.mem_append_right _ (List.mem_append_right _ (List.mem_append_right _ (List.mem_append_right _ (List.mem_append_right _ (List.mem_append_right _ (List.mem_append_right _ (List.mem_append_right _ (List.mem_append_right _ (List.mem_append_right _ (List.mem_append_right _ (List.mem_append_right _ (List.mem_append_right _ (List.mem_append_right _ (List.mem_append_right _ (List.mem_append_right _ (List.mem_append_right _ (List.mem_append_right _ (List.mem_append_right _ (List.mem_append_right _ (h))))))))))))))))))))))))))))), hg⟩
def ch_6_0 : List Cond := [Cond.code yX9_holds cX9_holds 2 (some .int), Cond.methodLink R_law 39 yX9_read, Cond.instanceMethod yX9_read, Cond.selects RX9 yX9_read yX9_read, Cond.code yX9_read cX9_read 2 (some .int), Cond.constant RX9 169 (-2000000000), Cond.methodLink R_law 44 yX9_compare, Cond.instanceMethod yX9_compare, Cond.selects RX9 yX9_compare yX9_compare, Cond.code yX9_compare cX9_compare 7 (some .int)]
def ch_6_1 : List Cond := [Cond.constant RX9 170 (-100000), Cond.constant RX9 171 100000, Cond.methodLink RX9 172 yX9_watchAt, (Jvm.Cond.privateMethod ({ cls := "SeaWatchesModel", name := "watchAt", desc := "(I)I" } : Jvm.MethodName)), Cond.instanceMethod yX9_watchAt, Cond.code yX9_watchAt cX9_watchAt 2 (some .int), Cond.methodLink R_law 48 yX9_error, Cond.instanceMethod yX9_error, Cond.selects RX9 yX9_error yX9_error, Cond.code yX9_error cX9_error 4 (some .int)]
def ch_6_2 : List Cond := [Cond.methodLink RX9 185 yX9_isKnown, Cond.static yX9_isKnown, Cond.code yX9_isKnown cX9_isKnown 1 (some .boolean), Cond.methodLink RX9 178 yX9_errorOf, (Jvm.Cond.privateMethod ({ cls := "SeaWatchesModel", name := "errorOf", desc := "(III)I" } : Jvm.MethodName)), Cond.instanceMethod yX9_errorOf, Cond.code yX9_errorOf cX9_errorOf 7 (some .int), Cond.methodLink R_law 52 yX9_rate, Cond.instanceMethod yX9_rate, Cond.selects RX9 yX9_rate yX9_rate]
def ch_6_3 : List Cond := [Cond.code yX9_rate cX9_rate 4 (some .int), Cond.methodLink RX9 188 yX9_rateOf, (Jvm.Cond.privateMethod ({ cls := "SeaWatchesModel", name := "rateOf", desc := "(III)I" } : Jvm.MethodName)), Cond.instanceMethod yX9_rateOf, Cond.code yX9_rateOf cX9_rateOf 7 (some .int), Cond.methodLink RX9 182 yX9_size, Cond.static yX9_size, Cond.code yX9_size cX9_size 1 (some .int), Cond.methodLink R_law 56 yX9_repair, Cond.instanceMethod yX9_repair]
def ch_6_4 : List Cond := [Cond.selects RX9 yX9_repair yX9_repair, Cond.code yX9_repair cX9_repair 5 (some .int), Cond.methodLink R_law 60 yX9_late, Cond.instanceMethod yX9_late, Cond.selects RX9 yX9_late yX9_late, Cond.code yX9_late cX9_late 5 (some .int), Cond.methodLink R_law 64 yX9_age, Cond.instanceMethod yX9_age, Cond.selects RX9 yX9_age yX9_age, Cond.code yX9_age cX9_age 4 (some .int)]
def ch_6_5 : List Cond := [Cond.methodLink RX9 191 yX9_ageOf, (Jvm.Cond.privateMethod ({ cls := "SeaWatchesModel", name := "ageOf", desc := "(II)I" } : Jvm.MethodName)), Cond.instanceMethod yX9_ageOf, Cond.code yX9_ageOf cX9_ageOf 4 (some .int), Cond.methodLink R_law 68 yX9_off, Cond.instanceMethod yX9_off, Cond.selects RX9 yX9_off yX9_off, Cond.code yX9_off cX9_off 5 (some .int), Cond.methodLink R_law 72 yX9_changed, Cond.instanceMethod yX9_changed]
def ch_6_6 : List Cond := [Cond.selects RX9 yX9_changed yX9_changed, Cond.code yX9_changed cX9_changed 8 (some .int), Cond.methodLink RX9 195 yX9_areDays, Cond.static yX9_areDays, Cond.code yX9_areDays cX9_areDays 2 (some .boolean), Cond.methodLink R_law 76 yX9_law, Cond.instanceMethod yX9_law, Cond.selects RX9 yX9_law yX9_law, Cond.code yX9_law cX9_law 5 (some .int), Cond.methodLink RX9 242 yX9_asked]
def ch_6_7 : List Cond := [(Jvm.Cond.privateMethod ({ cls := "SeaWatchesModel", name := "asked", desc := "(III)I" } : Jvm.MethodName)), Cond.instanceMethod yX9_asked, Cond.code yX9_asked cX9_asked 4 (some .int), Cond.methodLink RX9 245 yX9_sumUp, (Jvm.Cond.privateMethod ({ cls := "SeaWatchesModel", name := "sumUp", desc := "(III)V" } : Jvm.MethodName)), Cond.instanceMethod yX9_sumUp, Cond.code yX9_sumUp cX9_sumUp 11 none, Cond.methodLink RX9 227 yX9_warmthOf, (Jvm.Cond.privateMethod ({ cls := "SeaWatchesModel", name := "warmthOf", desc := "(II)I" } : Jvm.MethodName)), Cond.instanceMethod yX9_warmthOf]
def ch_6_8 : List Cond := [Cond.code yX9_warmthOf cX9_warmthOf 3 (some .int), Cond.constantLong RX9 230 (-2000000000), Cond.constantLong RX9 232 (-1000), Cond.methodLink R_law 80 yX9_terms, Cond.instanceMethod yX9_terms, Cond.selects RX9 yX9_terms yX9_terms, Cond.code yX9_terms cX9_terms 5 (some .int), Cond.methodLink RX9 249 yX9_termsNow, (Jvm.Cond.privateMethod ({ cls := "SeaWatchesModel", name := "termsNow", desc := "()I" } : Jvm.MethodName)), Cond.instanceMethod yX9_termsNow]
def ch_6_9 : List Cond := [Cond.code yX9_termsNow cX9_termsNow 1 (some .int), Cond.methodLink RX9 234 yX9_three, (Jvm.Cond.privateMethod ({ cls := "SeaWatchesModel", name := "three", desc := "()J" } : Jvm.MethodName)), Cond.instanceMethod yX9_three, Cond.code yX9_three cX9_three 1 (some .long), Cond.methodLink RX9 238 yX9_two, (Jvm.Cond.privateMethod ({ cls := "SeaWatchesModel", name := "two", desc := "(JJ)J" } : Jvm.MethodName)), Cond.instanceMethod yX9_two, Cond.code yX9_two cX9_two 5 (some .long), Cond.methodLink R_law 85 yX9_foretold]
def ch_6_10 : List Cond := [Cond.instanceMethod yX9_foretold, Cond.selects RX9 yX9_foretold yX9_foretold, Cond.code yX9_foretold cX9_foretold 10 (some .int), Cond.methodLink RX9 259 yX9_byThree, (Jvm.Cond.privateMethod ({ cls := "SeaWatchesModel", name := "byThree", desc := "(JJ)V" } : Jvm.MethodName)), Cond.instanceMethod yX9_byThree, Cond.code yX9_byThree cX9_byThree 11 none, Cond.methodLink RX9 263 yX9_byTwo, (Jvm.Cond.privateMethod ({ cls := "SeaWatchesModel", name := "byTwo", desc := "(JJJJ)V" } : Jvm.MethodName)), Cond.instanceMethod yX9_byTwo]
def ch_6_11 : List Cond := [Cond.code yX9_byTwo cX9_byTwo 9 none, Cond.methodLink RX9 267 yX9_floor, Cond.static yX9_floor, Cond.code yX9_floor cX9_floor 4 (some .long), Cond.constantLong RX9 270 3000000, Cond.constantLong RX9 272 (-3000000), Cond.constantLong RX9 274 1000, Cond.constantLong RX9 276 2000000000, Cond.methodLink R_law 89 yX9_jump, Cond.instanceMethod yX9_jump]
def ch_6_12 : List Cond := [Cond.selects RX9 yX9_jump yX9_jump, Cond.code yX9_jump cX9_jump 10 (some .int), Cond.methodLink RX9 281 yX9_findRates, (Jvm.Cond.privateMethod ({ cls := "SeaWatchesModel", name := "findRates", desc := "(III)V" } : Jvm.MethodName)), Cond.instanceMethod yX9_findRates, Cond.code yX9_findRates cX9_findRates 7 none, Cond.methodLink R_law 93 yX9_feed, Cond.instanceMethod yX9_feed, Cond.selects RX9 yX9_feed yX9_feed, Cond.code yX9_feed cX9_feed 4 (some .int)]
def ch_6_13 : List Cond := [Cond.methodLink R_law 97 yX9_rule, Cond.instanceMethod yX9_rule, Cond.selects RX9 yX9_rule yX9_rule, Cond.code yX9_rule cX9_rule 4 (some .int), Cond.methodLink RX9 371 yX9_readRule, (Jvm.Cond.privateMethod ({ cls := "SeaWatchesModel", name := "readRule", desc := "(I)I" } : Jvm.MethodName)), Cond.instanceMethod yX9_readRule, Cond.code yX9_readRule cX9_readRule 5 (some .int), Cond.methodLink RX9 361 yX9_advance, (Jvm.Cond.privateMethod ({ cls := "SeaWatchesModel", name := "advance", desc := "(I)V" } : Jvm.MethodName))]
def ch_6_14 : List Cond := [Cond.instanceMethod yX9_advance, Cond.code yX9_advance cX9_advance 6 none, Cond.methodLink RX9 296 yX9_isLetter, Cond.static yX9_isLetter, Cond.code yX9_isLetter cX9_isLetter 1 (some .boolean), Cond.constantLong RX9 299 27, Cond.constantLong RX9 301 96, Cond.methodLink RX9 303 yX9_wordOf, Cond.static yX9_wordOf, Cond.code yX9_wordOf cX9_wordOf 3 (some .int)]
def ch_6_15 : List Cond := [Cond.constantLong RX9 316 423, Cond.constantLong RX9 318 1111, Cond.constantLong RX9 320 10631, Cond.constantLong RX9 322 802, Cond.constantLong RX9 324 80155, Cond.constantLong RX9 326 6476969, Cond.constantLong RX9 328 267347, Cond.constantLong RX9 330 385682, Cond.constantLong RX9 332 138961, Cond.constantLong RX9 334 212506]
def ch_6_16 : List Cond := [Cond.constantLong RX9 336 2486801, Cond.constantLong RX9 338 14431, Cond.constantLong RX9 340 453937, Cond.constantLong RX9 342 11103, Cond.constantLong RX9 344 2436392, Cond.constantLong RX9 346 12387257, Cond.methodLink RX9 307 yX9_isDigit, Cond.static yX9_isDigit, Cond.code yX9_isDigit cX9_isDigit 1 (some .boolean), Cond.methodLink RX9 313 yX9_signOf]
def ch_6_17 : List Cond := [Cond.static yX9_signOf, Cond.code yX9_signOf cX9_signOf 1 (some .int), Cond.methodLink RX9 365 yX9_opened, (Jvm.Cond.privateMethod ({ cls := "SeaWatchesModel", name := "opened", desc := "()I" } : Jvm.MethodName)), Cond.instanceMethod yX9_opened, Cond.code yX9_opened cX9_opened 3 (some .int), Cond.methodLink RX9 357 yX9_lay, (Jvm.Cond.privateMethod ({ cls := "SeaWatchesModel", name := "lay", desc := "(II)V" } : Jvm.MethodName)), Cond.instanceMethod yX9_lay, Cond.code yX9_lay cX9_lay 3 none]
def ch_6_18 : List Cond := [Cond.methodLink RX9 368 yX9_done, (Jvm.Cond.privateMethod ({ cls := "SeaWatchesModel", name := "done", desc := "(I)V" } : Jvm.MethodName)), Cond.instanceMethod yX9_done, Cond.code yX9_done cX9_done 2 none, Cond.methodLink RX9 354 yX9_tight, Cond.static yX9_tight, Cond.code yX9_tight cX9_tight 1 (some .int), Cond.methodLink R_law 101 yX9_trial, Cond.instanceMethod yX9_trial, Cond.selects RX9 yX9_trial yX9_trial]
def ch_6_19 : List Cond := [Cond.code yX9_trial cX9_trial 4 (some .int), Cond.methodLink RX9 380 yX9_trialOf, (Jvm.Cond.privateMethod ({ cls := "SeaWatchesModel", name := "trialOf", desc := "(III)I" } : Jvm.MethodName)), Cond.instanceMethod yX9_trialOf, Cond.code yX9_trialOf cX9_trialOf 11 (some .int), Cond.methodLink RX9 377 yX9_says, (Jvm.Cond.privateMethod ({ cls := "SeaWatchesModel", name := "says", desc := "(I)I" } : Jvm.MethodName)), Cond.instanceMethod yX9_says, Cond.code yX9_says cX9_says 5 (some .int), Cond.methodLink RX9 374 yX9_both]
def ch_6_20 : List Cond := [Cond.static yX9_both, Cond.code yX9_both cX9_both 3 (some .int), Cond.methodLink R_law 105 yX9_order, Cond.instanceMethod yX9_order, Cond.selects RX9 yX9_order yX9_order, Cond.code yX9_order cX9_order 8 (some .int), Cond.methodLink RX9 383 yX9_hasTrial, (Jvm.Cond.privateMethod ({ cls := "SeaWatchesModel", name := "hasTrial", desc := "(III)Z" } : Jvm.MethodName)), Cond.instanceMethod yX9_hasTrial, Cond.code yX9_hasTrial cX9_hasTrial 4 (some .boolean)]
def ch_6_21 : List Cond := [Cond.methodLink R_law 109 yX9_sail, Cond.instanceMethod yX9_sail, Cond.selects RX9 yX9_sail yX9_sail, Cond.code yX9_sail cX9_sail 10 (some .int), Cond.methodLink RX9 386 yX9_isShip, Cond.static yX9_isShip, Cond.code yX9_isShip cX9_isShip 1 (some .boolean), Cond.methodLink RX9 389 yX9_maySail, (Jvm.Cond.privateMethod ({ cls := "SeaWatchesModel", name := "maySail", desc := "(I)Z" } : Jvm.MethodName)), Cond.instanceMethod yX9_maySail]
def ch_6_22 : List Cond := [Cond.code yX9_maySail cX9_maySail 2 (some .boolean), Cond.methodLink RX9 392 yX9_goesTo, (Jvm.Cond.privateMethod ({ cls := "SeaWatchesModel", name := "goesTo", desc := "(II)V" } : Jvm.MethodName)), Cond.instanceMethod yX9_goesTo, Cond.code yX9_goesTo cX9_goesTo 3 none, Cond.methodLink R_law 113 yX9_carried, Cond.instanceMethod yX9_carried, Cond.selects RX9 yX9_carried yX9_carried, Cond.code yX9_carried cX9_carried 5 (some .int), Cond.methodLink R_law 117 yX9_sight]
def ch_6_23 : List Cond := [Cond.instanceMethod yX9_sight, Cond.selects RX9 yX9_sight yX9_sight, Cond.code yX9_sight cX9_sight 7 (some .int), Cond.methodLink RX9 397 yX9_isShown, Cond.static yX9_isShown, Cond.code yX9_isShown cX9_isShown 1 (some .boolean), Cond.constant RX9 395 (-2000000), Cond.constant RX9 396 2000000, Cond.methodLink R_law 121 yX9_told, Cond.instanceMethod yX9_told]
set_option maxRecDepth 100000 in
theorem tq_6 : tables_1_6 = ch_6_0 ++ (ch_6_1 ++ (ch_6_2 ++ (ch_6_3 ++ (ch_6_4 ++ (ch_6_5 ++ (ch_6_6 ++ (ch_6_7 ++ (ch_6_8 ++ (ch_6_9 ++ (ch_6_10 ++ (ch_6_11 ++ (ch_6_12 ++ (ch_6_13 ++ (ch_6_14 ++ (ch_6_15 ++ (ch_6_16 ++ (ch_6_17 ++ (ch_6_18 ++ (ch_6_19 ++ (ch_6_20 ++ (ch_6_21 ++ (ch_6_22 ++ (ch_6_23))))))))))))))))))))))) := rfl
theorem cm_6_0 {w : Cond} (h : w ∈ ch_6_0) (hg : goodWord w = true) : w ∈ tb := List.mem_filter.mpr ⟨List.mem_append_right _ (show w ∈ tables_1 from List.mem_append_right _ (List.mem_append_right _ (List.mem_append_right _ (List.mem_append_right _ (List.mem_append_right _ (List.mem_append_left _ (show w ∈ tables_1_6 from by rw [tq_6]; exact List.mem_append_left _ h))))))), hg⟩
theorem cm_6_1 {w : Cond} (h : w ∈ ch_6_1) (hg : goodWord w = true) : w ∈ tb := List.mem_filter.mpr ⟨List.mem_append_right _ (show w ∈ tables_1 from List.mem_append_right _ (List.mem_append_right _ (List.mem_append_right _ (List.mem_append_right _ (List.mem_append_right _ (List.mem_append_left _ (show w ∈ tables_1_6 from by rw [tq_6]; exact List.mem_append_right _ (List.mem_append_left _ h)))))))), hg⟩
theorem cm_6_2 {w : Cond} (h : w ∈ ch_6_2) (hg : goodWord w = true) : w ∈ tb := List.mem_filter.mpr ⟨List.mem_append_right _ (show w ∈ tables_1 from List.mem_append_right _ (List.mem_append_right _ (List.mem_append_right _ (List.mem_append_right _ (List.mem_append_right _ (List.mem_append_left _ (show w ∈ tables_1_6 from by rw [tq_6]; exact List.mem_append_right _ (List.mem_append_right _ (List.mem_append_left _ h))))))))), hg⟩
theorem cm_6_3 {w : Cond} (h : w ∈ ch_6_3) (hg : goodWord w = true) : w ∈ tb := List.mem_filter.mpr ⟨List.mem_append_right _ (show w ∈ tables_1 from List.mem_append_right _ (List.mem_append_right _ (List.mem_append_right _ (List.mem_append_right _ (List.mem_append_right _ (List.mem_append_left _ (show w ∈ tables_1_6 from by rw [tq_6]; exact List.mem_append_right _ (List.mem_append_right _ (List.mem_append_right _ (List.mem_append_left _ h)))))))))), hg⟩
theorem cm_6_4 {w : Cond} (h : w ∈ ch_6_4) (hg : goodWord w = true) : w ∈ tb := List.mem_filter.mpr ⟨List.mem_append_right _ (show w ∈ tables_1 from List.mem_append_right _ (List.mem_append_right _ (List.mem_append_right _ (List.mem_append_right _ (List.mem_append_right _ (List.mem_append_left _ (show w ∈ tables_1_6 from by rw [tq_6]; exact List.mem_append_right _ (List.mem_append_right _ (List.mem_append_right _ (List.mem_append_right _ (List.mem_append_left _ h))))))))))), hg⟩
theorem cm_6_5 {w : Cond} (h : w ∈ ch_6_5) (hg : goodWord w = true) : w ∈ tb := List.mem_filter.mpr ⟨List.mem_append_right _ (show w ∈ tables_1 from List.mem_append_right _ (List.mem_append_right _ (List.mem_append_right _ (List.mem_append_right _ (List.mem_append_right _ (List.mem_append_left _ (show w ∈ tables_1_6 from by rw [tq_6]; exact List.mem_append_right _ (List.mem_append_right _ (List.mem_append_right _ (List.mem_append_right _ (List.mem_append_right _ (List.mem_append_left _ h)))))))))))), hg⟩
theorem cm_6_6 {w : Cond} (h : w ∈ ch_6_6) (hg : goodWord w = true) : w ∈ tb := List.mem_filter.mpr ⟨List.mem_append_right _ (show w ∈ tables_1 from List.mem_append_right _ (List.mem_append_right _ (List.mem_append_right _ (List.mem_append_right _ (List.mem_append_right _ (List.mem_append_left _ (show w ∈ tables_1_6 from by rw [tq_6]; exact List.mem_append_right _ (List.mem_append_right _ (List.mem_append_right _ (List.mem_append_right _ (List.mem_append_right _ (List.mem_append_right _ (List.mem_append_left _ h))))))))))))), hg⟩
theorem cm_6_7 {w : Cond} (h : w ∈ ch_6_7) (hg : goodWord w = true) : w ∈ tb := List.mem_filter.mpr ⟨List.mem_append_right _ (show w ∈ tables_1 from List.mem_append_right _ (List.mem_append_right _ (List.mem_append_right _ (List.mem_append_right _ (List.mem_append_right _ (List.mem_append_left _ (show w ∈ tables_1_6 from by rw [tq_6]; exact List.mem_append_right _ (List.mem_append_right _ (List.mem_append_right _ (List.mem_append_right _ (List.mem_append_right _ (List.mem_append_right _ (List.mem_append_right _ (List.mem_append_left _ h)))))))))))))), hg⟩
theorem cm_6_8 {w : Cond} (h : w ∈ ch_6_8) (hg : goodWord w = true) : w ∈ tb := List.mem_filter.mpr ⟨List.mem_append_right _ (show w ∈ tables_1 from List.mem_append_right _ (List.mem_append_right _ (List.mem_append_right _ (List.mem_append_right _ (List.mem_append_right _ (List.mem_append_left _ (show w ∈ tables_1_6 from by rw [tq_6]; exact List.mem_append_right _ (List.mem_append_right _ (List.mem_append_right _ (List.mem_append_right _ (List.mem_append_right _ (List.mem_append_right _ (List.mem_append_right _ (List.mem_append_right _ (List.mem_append_left _ h))))))))))))))), hg⟩
theorem cm_6_9 {w : Cond} (h : w ∈ ch_6_9) (hg : goodWord w = true) : w ∈ tb := List.mem_filter.mpr ⟨List.mem_append_right _ (show w ∈ tables_1 from List.mem_append_right _ (List.mem_append_right _ (List.mem_append_right _ (List.mem_append_right _ (List.mem_append_right _ (List.mem_append_left _ (show w ∈ tables_1_6 from by rw [tq_6]; exact List.mem_append_right _ (List.mem_append_right _ (List.mem_append_right _ (List.mem_append_right _ (List.mem_append_right _ (List.mem_append_right _ (List.mem_append_right _ (List.mem_append_right _ (List.mem_append_right _ (List.mem_append_left _ h)))))))))))))))), hg⟩
theorem cm_6_10 {w : Cond} (h : w ∈ ch_6_10) (hg : goodWord w = true) : w ∈ tb := List.mem_filter.mpr ⟨List.mem_append_right _ (show w ∈ tables_1 from List.mem_append_right _ (List.mem_append_right _ (List.mem_append_right _ (List.mem_append_right _ (List.mem_append_right _ (List.mem_append_left _ (show w ∈ tables_1_6 from by rw [tq_6]; exact List.mem_append_right _ (List.mem_append_right _ (List.mem_append_right _ (List.mem_append_right _ (List.mem_append_right _ (List.mem_append_right _ (List.mem_append_right _ (List.mem_append_right _ (List.mem_append_right _ (List.mem_append_right _ (List.mem_append_left _ h))))))))))))))))), hg⟩
theorem cm_6_11 {w : Cond} (h : w ∈ ch_6_11) (hg : goodWord w = true) : w ∈ tb := List.mem_filter.mpr ⟨List.mem_append_right _ (show w ∈ tables_1 from List.mem_append_right _ (List.mem_append_right _ (List.mem_append_right _ (List.mem_append_right _ (List.mem_append_right _ (List.mem_append_left _ (show w ∈ tables_1_6 from by rw [tq_6]; exact List.mem_append_right _ (List.mem_append_right _ (List.mem_append_right _ (List.mem_append_right _ (List.mem_append_right _ (List.mem_append_right _ (List.mem_append_right _ (List.mem_append_right _ (List.mem_append_right _ (List.mem_append_right _ (List.mem_append_right _ (List.mem_append_left _ h)))))))))))))))))), hg⟩
theorem cm_6_12 {w : Cond} (h : w ∈ ch_6_12) (hg : goodWord w = true) : w ∈ tb := List.mem_filter.mpr ⟨List.mem_append_right _ (show w ∈ tables_1 from List.mem_append_right _ (List.mem_append_right _ (List.mem_append_right _ (List.mem_append_right _ (List.mem_append_right _ (List.mem_append_left _ (show w ∈ tables_1_6 from by rw [tq_6]; exact List.mem_append_right _ (List.mem_append_right _ (List.mem_append_right _ (List.mem_append_right _ (List.mem_append_right _ (List.mem_append_right _ (List.mem_append_right _ (List.mem_append_right _ (List.mem_append_right _ (List.mem_append_right _ (List.mem_append_right _ (List.mem_append_right _ (List.mem_append_left _ h))))))))))))))))))), hg⟩
theorem cm_6_13 {w : Cond} (h : w ∈ ch_6_13) (hg : goodWord w = true) : w ∈ tb := List.mem_filter.mpr ⟨List.mem_append_right _ (show w ∈ tables_1 from List.mem_append_right _ (List.mem_append_right _ (List.mem_append_right _ (List.mem_append_right _ (List.mem_append_right _ (List.mem_append_left _ (show w ∈ tables_1_6 from by rw [tq_6]; exact List.mem_append_right _ (List.mem_append_right _ (List.mem_append_right _ (List.mem_append_right _ (List.mem_append_right _ (List.mem_append_right _ (List.mem_append_right _ (List.mem_append_right _ (List.mem_append_right _ (List.mem_append_right _ (List.mem_append_right _ (List.mem_append_right _ (List.mem_append_right _ (List.mem_append_left _ h)))))))))))))))))))), hg⟩
theorem cm_6_14 {w : Cond} (h : w ∈ ch_6_14) (hg : goodWord w = true) : w ∈ tb := List.mem_filter.mpr ⟨List.mem_append_right _ (show w ∈ tables_1 from List.mem_append_right _ (List.mem_append_right _ (List.mem_append_right _ (List.mem_append_right _ (List.mem_append_right _ (List.mem_append_left _ (show w ∈ tables_1_6 from by rw [tq_6]; exact List.mem_append_right _ (List.mem_append_right _ (List.mem_append_right _ (List.mem_append_right _ (List.mem_append_right _ (List.mem_append_right _ (List.mem_append_right _ (List.mem_append_right _ (List.mem_append_right _ (List.mem_append_right _ (List.mem_append_right _ (List.mem_append_right _ (List.mem_append_right _ (List.mem_append_right _ (List.mem_append_left _ h))))))))))))))))))))), hg⟩
theorem cm_6_15 {w : Cond} (h : w ∈ ch_6_15) (hg : goodWord w = true) : w ∈ tb := List.mem_filter.mpr ⟨List.mem_append_right _ (show w ∈ tables_1 from List.mem_append_right _ (List.mem_append_right _ (List.mem_append_right _ (List.mem_append_right _ (List.mem_append_right _ (List.mem_append_left _ (show w ∈ tables_1_6 from by rw [tq_6]; exact List.mem_append_right _ (List.mem_append_right _ (List.mem_append_right _ (List.mem_append_right _ (List.mem_append_right _ (List.mem_append_right _ (List.mem_append_right _ (List.mem_append_right _ (List.mem_append_right _ (List.mem_append_right _ (List.mem_append_right _ (List.mem_append_right _ (List.mem_append_right _ (List.mem_append_right _ (List.mem_append_right _ (List.mem_append_left _ h)))))))))))))))))))))), hg⟩
theorem cm_6_16 {w : Cond} (h : w ∈ ch_6_16) (hg : goodWord w = true) : w ∈ tb := List.mem_filter.mpr ⟨List.mem_append_right _ (show w ∈ tables_1 from List.mem_append_right _ (List.mem_append_right _ (List.mem_append_right _ (List.mem_append_right _ (List.mem_append_right _ (List.mem_append_left _ (show w ∈ tables_1_6 from by rw [tq_6]; exact List.mem_append_right _ (List.mem_append_right _ (List.mem_append_right _ (List.mem_append_right _ (List.mem_append_right _ (List.mem_append_right _ (List.mem_append_right _ (List.mem_append_right _ (List.mem_append_right _ (List.mem_append_right _ (List.mem_append_right _ (List.mem_append_right _ (List.mem_append_right _ (List.mem_append_right _ (List.mem_append_right _ (List.mem_append_right _ (List.mem_append_left _ h))))))))))))))))))))))), hg⟩
theorem cm_6_17 {w : Cond} (h : w ∈ ch_6_17) (hg : goodWord w = true) : w ∈ tb := List.mem_filter.mpr ⟨List.mem_append_right _ (show w ∈ tables_1 from List.mem_append_right _ (List.mem_append_right _ (List.mem_append_right _ (List.mem_append_right _ (List.mem_append_right _ (List.mem_append_left _ (show w ∈ tables_1_6 from by rw [tq_6]; exact List.mem_append_right _ (List.mem_append_right _ (List.mem_append_right _ (List.mem_append_right _ (List.mem_append_right _ (List.mem_append_right _ (List.mem_append_right _ (List.mem_append_right _ (List.mem_append_right _ (List.mem_append_right _ (List.mem_append_right _ (List.mem_append_right _ (List.mem_append_right _ (List.mem_append_right _ (List.mem_append_right _ (List.mem_append_right _ (List.mem_append_right _ (List.mem_append_left _ h)))))))))))))))))))))))), hg⟩
theorem cm_6_18 {w : Cond} (h : w ∈ ch_6_18) (hg : goodWord w = true) : w ∈ tb := List.mem_filter.mpr ⟨List.mem_append_right _ (show w ∈ tables_1 from List.mem_append_right _ (List.mem_append_right _ (List.mem_append_right _ (List.mem_append_right _ (List.mem_append_right _ (List.mem_append_left _ (show w ∈ tables_1_6 from by rw [tq_6]; exact List.mem_append_right _ (List.mem_append_right _ (List.mem_append_right _ (List.mem_append_right _ (List.mem_append_right _ (List.mem_append_right _ (List.mem_append_right _ (List.mem_append_right _ (List.mem_append_right _ (List.mem_append_right _ (List.mem_append_right _ (List.mem_append_right _ (List.mem_append_right _ (List.mem_append_right _ (List.mem_append_right _ (List.mem_append_right _ (List.mem_append_right _ (List.mem_append_right _ (List.mem_append_left _ h))))))))))))))))))))))))), hg⟩
theorem cm_6_19 {w : Cond} (h : w ∈ ch_6_19) (hg : goodWord w = true) : w ∈ tb := List.mem_filter.mpr ⟨List.mem_append_right _ (show w ∈ tables_1 from List.mem_append_right _ (List.mem_append_right _ (List.mem_append_right _ (List.mem_append_right _ (List.mem_append_right _ (List.mem_append_left _ (show w ∈ tables_1_6 from by rw [tq_6]; exact List.mem_append_right _ (List.mem_append_right _ (List.mem_append_right _ (List.mem_append_right _ (List.mem_append_right _ (List.mem_append_right _ (List.mem_append_right _ (List.mem_append_right _ (List.mem_append_right _ (List.mem_append_right _ (List.mem_append_right _ (List.mem_append_right _ (List.mem_append_right _ (List.mem_append_right _ (List.mem_append_right _ (List.mem_append_right _ (List.mem_append_right _ (List.mem_append_right _ (List.mem_append_right _ (List.mem_append_left _ h)))))))))))))))))))))))))), hg⟩
theorem cm_6_20 {w : Cond} (h : w ∈ ch_6_20) (hg : goodWord w = true) : w ∈ tb := List.mem_filter.mpr ⟨List.mem_append_right _ (show w ∈ tables_1 from List.mem_append_right _ (List.mem_append_right _ (List.mem_append_right _ (List.mem_append_right _ (List.mem_append_right _ (List.mem_append_left _ (show w ∈ tables_1_6 from by rw [tq_6]; exact List.mem_append_right _ (List.mem_append_right _ (List.mem_append_right _ (List.mem_append_right _ (List.mem_append_right _ (List.mem_append_right _ (List.mem_append_right _ (List.mem_append_right _ (List.mem_append_right _ (List.mem_append_right _ (List.mem_append_right _ (List.mem_append_right _ (List.mem_append_right _ (List.mem_append_right _ (List.mem_append_right _ (List.mem_append_right _ (List.mem_append_right _ (List.mem_append_right _ (List.mem_append_right _ (List.mem_append_right _ (List.mem_append_left _ h))))))))))))))))))))))))))), hg⟩
theorem cm_6_21 {w : Cond} (h : w ∈ ch_6_21) (hg : goodWord w = true) : w ∈ tb := List.mem_filter.mpr ⟨List.mem_append_right _ (show w ∈ tables_1 from List.mem_append_right _ (List.mem_append_right _ (List.mem_append_right _ (List.mem_append_right _ (List.mem_append_right _ (List.mem_append_left _ (show w ∈ tables_1_6 from by rw [tq_6]; exact List.mem_append_right _ (List.mem_append_right _ (List.mem_append_right _ (List.mem_append_right _ (List.mem_append_right _ (List.mem_append_right _ (List.mem_append_right _ (List.mem_append_right _ (List.mem_append_right _ (List.mem_append_right _ (List.mem_append_right _ (List.mem_append_right _ (List.mem_append_right _ (List.mem_append_right _ (List.mem_append_right _ (List.mem_append_right _ (List.mem_append_right _ (List.mem_append_right _ (List.mem_append_right _ (List.mem_append_right _ (List.mem_append_right _ (List.mem_append_left _ h)))))))))))))))))))))))))))), hg⟩
theorem cm_6_22 {w : Cond} (h : w ∈ ch_6_22) (hg : goodWord w = true) : w ∈ tb := List.mem_filter.mpr ⟨List.mem_append_right _ (show w ∈ tables_1 from List.mem_append_right _ (List.mem_append_right _ (List.mem_append_right _ (List.mem_append_right _ (List.mem_append_right _ (List.mem_append_left _ (show w ∈ tables_1_6 from by rw [tq_6]; exact List.mem_append_right _ (List.mem_append_right _ (List.mem_append_right _ (List.mem_append_right _ (List.mem_append_right _ (List.mem_append_right _ (List.mem_append_right _ (List.mem_append_right _ (List.mem_append_right _ (List.mem_append_right _ (List.mem_append_right _ (List.mem_append_right _ (List.mem_append_right _ (List.mem_append_right _ (List.mem_append_right _ (List.mem_append_right _ (List.mem_append_right _ (List.mem_append_right _ (List.mem_append_right _ (List.mem_append_right _ (List.mem_append_right _ (List.mem_append_right _ (List.mem_append_left _ h))))))))))))))))))))))))))))), hg⟩
theorem cm_6_23 {w : Cond} (h : w ∈ ch_6_23) (hg : goodWord w = true) : w ∈ tb := List.mem_filter.mpr ⟨List.mem_append_right _ (show w ∈ tables_1 from List.mem_append_right _ (List.mem_append_right _ (List.mem_append_right _ (List.mem_append_right _ (List.mem_append_right _ (List.mem_append_left _ (show w ∈ tables_1_6 from by rw [tq_6]; exact List.mem_append_right _ (List.mem_append_right _ (List.mem_append_right _ (List.mem_append_right _ (List.mem_append_right _ (List.mem_append_right _ (List.mem_append_right _ (List.mem_append_right _ (List.mem_append_right _ (List.mem_append_right _ (List.mem_append_right _ (List.mem_append_right _ (List.mem_append_right _ (List.mem_append_right _ (List.mem_append_right _ (List.mem_append_right _ (List.mem_append_right _ (List.mem_append_right _ (List.mem_append_right _ (List.mem_append_right _ (List.mem_append_right _ (List.mem_append_right _ (List.mem_append_right _ (h)))))))))))))))))))))))))))))), hg⟩
def ch_7_0 : List Cond := [Cond.selects RX9 yX9_told yX9_told, Cond.code yX9_told cX9_told 8 (some .int), Cond.methodLink RX9 402 yX9_work, (Jvm.Cond.privateMethod ({ cls := "SeaWatchesModel", name := "work", desc := "(II)I" } : Jvm.MethodName)), Cond.instanceMethod yX9_work, Cond.code yX9_work cX9_work 11 (some .int), Cond.constantLong RX9 400 2, Cond.constant RX9 405 2000000000, Cond.methodLink R_law 125 yX9_back, Cond.instanceMethod yX9_back]
def ch_7_1 : List Cond := [Cond.selects RX9 yX9_back yX9_back, Cond.code yX9_back cX9_back 8 (some .int), Cond.methodLink R_law 129 yX9_state, Cond.instanceMethod yX9_state, Cond.selects RX9 yX9_state yX9_state, Cond.code yX9_state cX9_state 2 (some .int), Cond.methodLink R_law 133 yX9_doubt, Cond.instanceMethod yX9_doubt, Cond.selects RX9 yX9_doubt yX9_doubt, Cond.code yX9_doubt cX9_doubt 2 (some .int)]
def ch_7_2 : List Cond := [Cond.methodLink R_law 137 yX9_deal, Cond.instanceMethod yX9_deal, Cond.selects RX9 yX9_deal yX9_deal, Cond.code yX9_deal cX9_deal 9 (some .int), Cond.methodLink RX9 409 yX9_isWay, (Jvm.Cond.privateMethod ({ cls := "SeaWatchesModel", name := "isWay", desc := "(I)Z" } : Jvm.MethodName)), Cond.instanceMethod yX9_isWay, Cond.code yX9_isWay cX9_isWay 3 (some .boolean), Cond.methodLink RX9 412 yX9_secondOf, (Jvm.Cond.privateMethod ({ cls := "SeaWatchesModel", name := "secondOf", desc := "(I)I" } : Jvm.MethodName))]
def ch_7_3 : List Cond := [Cond.instanceMethod yX9_secondOf, Cond.code yX9_secondOf cX9_secondOf 5 (some .int), Cond.methodLink R_law 141 yX9_dealt, Cond.instanceMethod yX9_dealt, Cond.selects RX9 yX9_dealt yX9_dealt, Cond.code yX9_dealt cX9_dealt 2 (some .int), Cond.methodLink R_law 145 yX9_lend, Cond.instanceMethod yX9_lend, Cond.selects RX9 yX9_lend yX9_lend, Cond.code yX9_lend cX9_lend 4 (some .int)]
def ch_7_4 : List Cond := [Cond.methodLink R_law 149 yX9_home, Cond.instanceMethod yX9_home, Cond.selects RX9 yX9_home yX9_home, Cond.code yX9_home cX9_home 3 (some .int), Cond.methodLink R_law 153 yX9_holder, Cond.instanceMethod yX9_holder, Cond.selects RX9 yX9_holder yX9_holder, Cond.code yX9_holder cX9_holder 3 (some .int), Cond.methodLink R_law 157 yX9_away, Cond.instanceMethod yX9_away]
def ch_7_5 : List Cond := [Cond.selects RX9 yX9_away yX9_away, Cond.code yX9_away cX9_away 5 (some .int), Cond.methodLink R_law 161 yX9_count, Cond.instanceMethod yX9_count, Cond.selects RX9 yX9_count yX9_count, Cond.code yX9_count cX9_count 4 (some .int), Cond.fieldLink "java/lang/String" 9 "java/lang/String" "value" "[B", Cond.fieldLink "java/lang/String" 15 "java/lang/String" "coder" "B"]
set_option maxRecDepth 100000 in
theorem tq_7 : tables_1_7 = ch_7_0 ++ (ch_7_1 ++ (ch_7_2 ++ (ch_7_3 ++ (ch_7_4 ++ (ch_7_5))))) := rfl
theorem cm_7_0 {w : Cond} (h : w ∈ ch_7_0) (hg : goodWord w = true) : w ∈ tb := List.mem_filter.mpr ⟨List.mem_append_right _ (show w ∈ tables_1 from List.mem_append_right _ (List.mem_append_right _ (List.mem_append_right _ (List.mem_append_right _ (List.mem_append_right _ (List.mem_append_right _ ((show w ∈ tables_1_7 from by rw [tq_7]; exact List.mem_append_left _ h)))))))), hg⟩
theorem cm_7_1 {w : Cond} (h : w ∈ ch_7_1) (hg : goodWord w = true) : w ∈ tb := List.mem_filter.mpr ⟨List.mem_append_right _ (show w ∈ tables_1 from List.mem_append_right _ (List.mem_append_right _ (List.mem_append_right _ (List.mem_append_right _ (List.mem_append_right _ (List.mem_append_right _ ((show w ∈ tables_1_7 from by rw [tq_7]; exact List.mem_append_right _ (List.mem_append_left _ h))))))))), hg⟩
theorem cm_7_2 {w : Cond} (h : w ∈ ch_7_2) (hg : goodWord w = true) : w ∈ tb := List.mem_filter.mpr ⟨List.mem_append_right _ (show w ∈ tables_1 from List.mem_append_right _ (List.mem_append_right _ (List.mem_append_right _ (List.mem_append_right _ (List.mem_append_right _ (List.mem_append_right _ ((show w ∈ tables_1_7 from by rw [tq_7]; exact List.mem_append_right _ (List.mem_append_right _ (List.mem_append_left _ h)))))))))), hg⟩
theorem cm_7_3 {w : Cond} (h : w ∈ ch_7_3) (hg : goodWord w = true) : w ∈ tb := List.mem_filter.mpr ⟨List.mem_append_right _ (show w ∈ tables_1 from List.mem_append_right _ (List.mem_append_right _ (List.mem_append_right _ (List.mem_append_right _ (List.mem_append_right _ (List.mem_append_right _ ((show w ∈ tables_1_7 from by rw [tq_7]; exact List.mem_append_right _ (List.mem_append_right _ (List.mem_append_right _ (List.mem_append_left _ h))))))))))), hg⟩
theorem cm_7_4 {w : Cond} (h : w ∈ ch_7_4) (hg : goodWord w = true) : w ∈ tb := List.mem_filter.mpr ⟨List.mem_append_right _ (show w ∈ tables_1 from List.mem_append_right _ (List.mem_append_right _ (List.mem_append_right _ (List.mem_append_right _ (List.mem_append_right _ (List.mem_append_right _ ((show w ∈ tables_1_7 from by rw [tq_7]; exact List.mem_append_right _ (List.mem_append_right _ (List.mem_append_right _ (List.mem_append_right _ (List.mem_append_left _ h)))))))))))), hg⟩
theorem cm_7_5 {w : Cond} (h : w ∈ ch_7_5) (hg : goodWord w = true) : w ∈ tb := List.mem_filter.mpr ⟨List.mem_append_right _ (show w ∈ tables_1 from List.mem_append_right _ (List.mem_append_right _ (List.mem_append_right _ (List.mem_append_right _ (List.mem_append_right _ (List.mem_append_right _ ((show w ∈ tables_1_7 from by rw [tq_7]; exact List.mem_append_right _ (List.mem_append_right _ (List.mem_append_right _ (List.mem_append_right _ (List.mem_append_right _ (h))))))))))))), hg⟩
theorem k_0 : Cond.initialized R_law ∈ tb := cm_1_0 (List.Mem.head _) rfl
theorem k_1 : Cond.initialized RX8 ∈ tb := cm_1_0 (List.Mem.tail _ (List.Mem.head _)) rfl
theorem k_2 : Cond.initialized RX2 ∈ tb := cm_1_0 (List.Mem.tail _ (List.Mem.tail _ (List.Mem.head _))) rfl
theorem k_3 : Cond.initialized RX3 ∈ tb := cm_1_0 (List.Mem.tail _ (List.Mem.tail _ (List.Mem.tail _ (List.Mem.head _)))) rfl
theorem k_4 : Cond.initialized RX1 ∈ tb := cm_1_0 (List.Mem.tail _ (List.Mem.tail _ (List.Mem.tail _ (List.Mem.tail _ (List.Mem.head _))))) rfl
theorem k_5 : Cond.initialized RX6 ∈ tb := cm_1_0 (List.Mem.tail _ (List.Mem.tail _ (List.Mem.tail _ (List.Mem.tail _ (List.Mem.tail _ (List.Mem.head _)))))) rfl
theorem k_6 : Cond.initialized RX4 ∈ tb := cm_1_0 (List.Mem.tail _ (List.Mem.tail _ (List.Mem.tail _ (List.Mem.tail _ (List.Mem.tail _ (List.Mem.tail _ (List.Mem.head _))))))) rfl
theorem k_7 : Cond.initialized RX0 ∈ tb := cm_1_0 (List.Mem.tail _ (List.Mem.tail _ (List.Mem.tail _ (List.Mem.tail _ (List.Mem.tail _ (List.Mem.tail _ (List.Mem.tail _ (List.Mem.head _)))))))) rfl
theorem k_8 : Cond.initialized RX5 ∈ tb := cm_1_0 (List.Mem.tail _ (List.Mem.tail _ (List.Mem.tail _ (List.Mem.tail _ (List.Mem.tail _ (List.Mem.tail _ (List.Mem.tail _ (List.Mem.tail _ (List.Mem.head _))))))))) rfl
theorem k_9 : Cond.initialized RX9 ∈ tb := cm_1_0 (List.Mem.tail _ (List.Mem.tail _ (List.Mem.tail _ (List.Mem.tail _ (List.Mem.tail _ (List.Mem.tail _ (List.Mem.tail _ (List.Mem.tail _ (List.Mem.tail _ (List.Mem.head _)))))))))) rfl
theorem k_10 : Cond.initialized RX7 ∈ tb := cm_1_1 (List.Mem.head _) rfl
theorem k_11 : Cond.initialized "java/lang/Math" ∈ tb := cm_1_1 (List.Mem.tail _ (List.Mem.head _)) rfl
theorem k_12 : Cond.initialized "java/lang/String" ∈ tb := cm_1_1 (List.Mem.tail _ (List.Mem.tail _ (List.Mem.head _))) rfl
theorem k_13 : Cond.initialized "java/lang/StringLatin1" ∈ tb := cm_1_1 (List.Mem.tail _ (List.Mem.tail _ (List.Mem.tail _ (List.Mem.head _)))) rfl
theorem k_14 : Cond.initialized "jdk/internal/util/Preconditions" ∈ tb := cm_1_1 (List.Mem.tail _ (List.Mem.tail _ (List.Mem.tail _ (List.Mem.tail _ (List.Mem.head _))))) rfl
theorem k_15 : Cond.initialized "java/lang/StringUTF16" ∈ tb := cm_1_1 (List.Mem.tail _ (List.Mem.tail _ (List.Mem.tail _ (List.Mem.tail _ (List.Mem.tail _ (List.Mem.head _)))))) rfl
theorem k_16 : Cond.classLink R_law 7 RX8 ∈ tb := cm_1_1 (List.Mem.tail _ (List.Mem.tail _ (List.Mem.tail _ (List.Mem.tail _ (List.Mem.tail _ (List.Mem.tail _ (List.Mem.head _))))))) rfl
theorem k_17 : Cond.instantiable RX8 14 ∈ tb := cm_1_1 (List.Mem.tail _ (List.Mem.tail _ (List.Mem.tail _ (List.Mem.tail _ (List.Mem.tail _ (List.Mem.tail _ (List.Mem.tail _ (List.Mem.head _)))))))) rfl
theorem k_18 : Cond.methodLink R_law 9 yX8_init ∈ tb := cm_1_1 (List.Mem.tail _ (List.Mem.tail _ (List.Mem.tail _ (List.Mem.tail _ (List.Mem.tail _ (List.Mem.tail _ (List.Mem.tail _ (List.Mem.tail _ (List.Mem.head _))))))))) rfl
theorem k_19 : Cond.instanceMethod yX8_init ∈ tb := cm_1_1 (List.Mem.tail _ (List.Mem.tail _ (List.Mem.tail _ (List.Mem.tail _ (List.Mem.tail _ (List.Mem.tail _ (List.Mem.tail _ (List.Mem.tail _ (List.Mem.tail _ (List.Mem.head _)))))))))) rfl
theorem k_20 : Cond.code yX8_init cX8_init 2 none ∈ tb := cm_1_2 (List.Mem.head _) rfl
theorem k_21 : Cond.methodLink RX8 1 objectInit ∈ tb := cm_1_2 (List.Mem.tail _ (List.Mem.head _)) rfl
theorem k_22 : Cond.instanceMethod objectInit ∈ tb := cm_1_2 (List.Mem.tail _ (List.Mem.tail _ (List.Mem.head _))) rfl
theorem k_23 : Cond.code objectInit ⟨#[0xb1]⟩ 1 none ∈ tb := cm_1_2 (List.Mem.tail _ (List.Mem.tail _ (List.Mem.tail _ (List.Mem.head _)))) rfl
theorem k_24 : Cond.classLink RX8 19 RX7 ∈ tb := cm_1_2 (List.Mem.tail _ (List.Mem.tail _ (List.Mem.tail _ (List.Mem.tail _ (List.Mem.head _))))) rfl
theorem k_26 : Cond.classLink RX8 25 RX5 ∈ tb := cm_1_2 (List.Mem.tail _ (List.Mem.tail _ (List.Mem.tail _ (List.Mem.tail _ (List.Mem.tail _ (List.Mem.tail _ (List.Mem.head _))))))) rfl
theorem k_28 : Cond.classLink RX8 34 RX2 ∈ tb := cm_1_2 (List.Mem.tail _ (List.Mem.tail _ (List.Mem.tail _ (List.Mem.tail _ (List.Mem.tail _ (List.Mem.tail _ (List.Mem.tail _ (List.Mem.tail _ (List.Mem.head _))))))))) rfl
theorem k_29 : Cond.instantiable RX2 6 ∈ tb := cm_1_2 (List.Mem.tail _ (List.Mem.tail _ (List.Mem.tail _ (List.Mem.tail _ (List.Mem.tail _ (List.Mem.tail _ (List.Mem.tail _ (List.Mem.tail _ (List.Mem.tail _ (List.Mem.head _)))))))))) rfl
theorem k_31 : Cond.instanceMethod yX2_init ∈ tb := cm_1_3 (List.Mem.tail _ (List.Mem.head _)) rfl
theorem k_32 : Cond.code yX2_init cX2_init 1 none ∈ tb := cm_1_3 (List.Mem.tail _ (List.Mem.tail _ (List.Mem.head _))) rfl
theorem k_33 : Cond.methodLink RX2 3 objectInit ∈ tb := cm_1_3 (List.Mem.tail _ (List.Mem.tail _ (List.Mem.tail _ (List.Mem.head _)))) rfl
theorem k_34 : Cond.fieldLink RX2 9 "SeaWatches$Offs" "signals" "[I" ∈ tb := cm_1_3 (List.Mem.tail _ (List.Mem.tail _ (List.Mem.tail _ (List.Mem.tail _ (List.Mem.head _))))) rfl
theorem k_35 : Cond.fieldLink RX2 15 "SeaWatches$Offs" "firsts" "[I" ∈ tb := cm_1_3 (List.Mem.tail _ (List.Mem.tail _ (List.Mem.tail _ (List.Mem.tail _ (List.Mem.tail _ (List.Mem.head _)))))) rfl
theorem k_36 : Cond.fieldLink RX2 18 "SeaWatches$Offs" "lasts" "[I" ∈ tb := cm_1_3 (List.Mem.tail _ (List.Mem.tail _ (List.Mem.tail _ (List.Mem.tail _ (List.Mem.tail _ (List.Mem.tail _ (List.Mem.head _))))))) rfl
theorem k_37 : Cond.fieldLink RX2 21 "SeaWatches$Offs" "values" "[I" ∈ tb := cm_1_3 (List.Mem.tail _ (List.Mem.tail _ (List.Mem.tail _ (List.Mem.tail _ (List.Mem.tail _ (List.Mem.tail _ (List.Mem.tail _ (List.Mem.head _)))))))) rfl
theorem k_38 : Cond.fieldLink RX2 24 "SeaWatches$Offs" "toldOn" "[I" ∈ tb := cm_1_3 (List.Mem.tail _ (List.Mem.tail _ (List.Mem.tail _ (List.Mem.tail _ (List.Mem.tail _ (List.Mem.tail _ (List.Mem.tail _ (List.Mem.tail _ (List.Mem.head _))))))))) rfl
theorem k_39 : Cond.fieldLink RX2 27 "SeaWatches$Offs" "size" "I" ∈ tb := cm_1_3 (List.Mem.tail _ (List.Mem.tail _ (List.Mem.tail _ (List.Mem.tail _ (List.Mem.tail _ (List.Mem.tail _ (List.Mem.tail _ (List.Mem.tail _ (List.Mem.tail _ (List.Mem.head _)))))))))) rfl
theorem k_54 : Cond.arrayClass .int ∈ tb := cm_1_5 (List.Mem.tail _ (List.Mem.tail _ (List.Mem.tail _ (List.Mem.tail _ (List.Mem.head _))))) rfl
theorem k_55 : Cond.classLink RX8 41 RX3 ∈ tb := cm_1_5 (List.Mem.tail _ (List.Mem.tail _ (List.Mem.tail _ (List.Mem.tail _ (List.Mem.tail _ (List.Mem.head _)))))) rfl
theorem k_56 : Cond.instantiable RX3 4 ∈ tb := cm_1_5 (List.Mem.tail _ (List.Mem.tail _ (List.Mem.tail _ (List.Mem.tail _ (List.Mem.tail _ (List.Mem.tail _ (List.Mem.head _))))))) rfl
theorem k_58 : Cond.instanceMethod yX3_init ∈ tb := cm_1_5 (List.Mem.tail _ (List.Mem.tail _ (List.Mem.tail _ (List.Mem.tail _ (List.Mem.tail _ (List.Mem.tail _ (List.Mem.tail _ (List.Mem.tail _ (List.Mem.head _))))))))) rfl
theorem k_59 : Cond.code yX3_init cX3_init 1 none ∈ tb := cm_1_5 (List.Mem.tail _ (List.Mem.tail _ (List.Mem.tail _ (List.Mem.tail _ (List.Mem.tail _ (List.Mem.tail _ (List.Mem.tail _ (List.Mem.tail _ (List.Mem.tail _ (List.Mem.head _)))))))))) rfl
theorem k_60 : Cond.methodLink RX3 3 objectInit ∈ tb := cm_1_6 (List.Mem.head _) rfl
theorem k_61 : Cond.fieldLink RX3 9 "SeaWatches$Rates" "days" "[I" ∈ tb := cm_1_6 (List.Mem.tail _ (List.Mem.head _)) rfl
theorem k_63 : Cond.fieldLink RX3 15 "SeaWatches$Rates" "values" "[I" ∈ tb := cm_1_6 (List.Mem.tail _ (List.Mem.tail _ (List.Mem.tail _ (List.Mem.head _)))) rfl
theorem k_65 : Cond.fieldLink RX3 18 "SeaWatches$Rates" "sorted" "[I" ∈ tb := cm_1_6 (List.Mem.tail _ (List.Mem.tail _ (List.Mem.tail _ (List.Mem.tail _ (List.Mem.tail _ (List.Mem.head _)))))) rfl
theorem k_66 : Cond.fieldLink RX3 21 "SeaWatches$Rates" "size" "I" ∈ tb := cm_1_6 (List.Mem.tail _ (List.Mem.tail _ (List.Mem.tail _ (List.Mem.tail _ (List.Mem.tail _ (List.Mem.tail _ (List.Mem.head _))))))) rfl
theorem k_77 : Cond.classLink RX8 48 RX1 ∈ tb := cm_1_7 (List.Mem.tail _ (List.Mem.tail _ (List.Mem.tail _ (List.Mem.tail _ (List.Mem.tail _ (List.Mem.tail _ (List.Mem.tail _ (List.Mem.head _)))))))) rfl
theorem k_78 : Cond.instantiable RX1 15 ∈ tb := cm_1_7 (List.Mem.tail _ (List.Mem.tail _ (List.Mem.tail _ (List.Mem.tail _ (List.Mem.tail _ (List.Mem.tail _ (List.Mem.tail _ (List.Mem.tail _ (List.Mem.head _))))))))) rfl
theorem k_80 : Cond.instanceMethod yX1_init ∈ tb := cm_1_8 (List.Mem.head _) rfl
theorem k_81 : Cond.code yX1_init cX1_init 1 none ∈ tb := cm_1_8 (List.Mem.tail _ (List.Mem.head _)) rfl
theorem k_82 : Cond.methodLink RX1 3 objectInit ∈ tb := cm_1_8 (List.Mem.tail _ (List.Mem.tail _ (List.Mem.head _))) rfl
theorem k_83 : Cond.fieldLink RX1 19 "SeaWatches$Fit" "n" "J" ∈ tb := cm_1_8 (List.Mem.tail _ (List.Mem.tail _ (List.Mem.tail _ (List.Mem.head _)))) rfl
theorem k_84 : Cond.fieldLink RX1 22 "SeaWatches$Fit" "sumR" "J" ∈ tb := cm_1_8 (List.Mem.tail _ (List.Mem.tail _ (List.Mem.tail _ (List.Mem.tail _ (List.Mem.head _))))) rfl
theorem k_85 : Cond.fieldLink RX1 25 "SeaWatches$Fit" "sumW" "J" ∈ tb := cm_1_8 (List.Mem.tail _ (List.Mem.tail _ (List.Mem.tail _ (List.Mem.tail _ (List.Mem.tail _ (List.Mem.head _)))))) rfl
theorem k_86 : Cond.fieldLink RX1 28 "SeaWatches$Fit" "sumA" "J" ∈ tb := cm_1_8 (List.Mem.tail _ (List.Mem.tail _ (List.Mem.tail _ (List.Mem.tail _ (List.Mem.tail _ (List.Mem.tail _ (List.Mem.head _))))))) rfl
theorem k_87 : Cond.fieldLink RX1 31 "SeaWatches$Fit" "sumWW" "J" ∈ tb := cm_1_8 (List.Mem.tail _ (List.Mem.tail _ (List.Mem.tail _ (List.Mem.tail _ (List.Mem.tail _ (List.Mem.tail _ (List.Mem.tail _ (List.Mem.head _)))))))) rfl
theorem k_88 : Cond.fieldLink RX1 34 "SeaWatches$Fit" "sumAA" "J" ∈ tb := cm_1_8 (List.Mem.tail _ (List.Mem.tail _ (List.Mem.tail _ (List.Mem.tail _ (List.Mem.tail _ (List.Mem.tail _ (List.Mem.tail _ (List.Mem.tail _ (List.Mem.head _))))))))) rfl
theorem k_89 : Cond.fieldLink RX1 37 "SeaWatches$Fit" "sumWA" "J" ∈ tb := cm_1_8 (List.Mem.tail _ (List.Mem.tail _ (List.Mem.tail _ (List.Mem.tail _ (List.Mem.tail _ (List.Mem.tail _ (List.Mem.tail _ (List.Mem.tail _ (List.Mem.tail _ (List.Mem.head _)))))))))) rfl
theorem k_90 : Cond.fieldLink RX1 40 "SeaWatches$Fit" "sumWR" "J" ∈ tb := cm_1_9 (List.Mem.head _) rfl
theorem k_91 : Cond.fieldLink RX1 43 "SeaWatches$Fit" "sumAR" "J" ∈ tb := cm_1_9 (List.Mem.tail _ (List.Mem.head _)) rfl
theorem k_92 : Cond.fieldLink RX1 9 "SeaWatches$Fit" "divisor" "J" ∈ tb := cm_1_9 (List.Mem.tail _ (List.Mem.tail _ (List.Mem.head _))) rfl
theorem k_93 : Cond.fieldLink RX1 50 "SeaWatches$Fit" "byWarmth" "J" ∈ tb := cm_1_9 (List.Mem.tail _ (List.Mem.tail _ (List.Mem.tail _ (List.Mem.head _)))) rfl
theorem k_94 : Cond.fieldLink RX1 53 "SeaWatches$Fit" "byAge" "J" ∈ tb := cm_1_9 (List.Mem.tail _ (List.Mem.tail _ (List.Mem.tail _ (List.Mem.tail _ (List.Mem.head _))))) rfl
theorem k_95 : Cond.fieldLink RX1 15 "SeaWatches$Fit" "form" "I" ∈ tb := cm_1_9 (List.Mem.tail _ (List.Mem.tail _ (List.Mem.tail _ (List.Mem.tail _ (List.Mem.tail _ (List.Mem.head _)))))) rfl
theorem k_96 : Cond.fieldLink RX1 56 "SeaWatches$Fit" "whole" "J" ∈ tb := cm_1_9 (List.Mem.tail _ (List.Mem.tail _ (List.Mem.tail _ (List.Mem.tail _ (List.Mem.tail _ (List.Mem.tail _ (List.Mem.head _))))))) rfl
theorem k_97 : Cond.fieldLink RX1 59 "SeaWatches$Fit" "rest" "J" ∈ tb := cm_1_9 (List.Mem.tail _ (List.Mem.tail _ (List.Mem.tail _ (List.Mem.tail _ (List.Mem.tail _ (List.Mem.tail _ (List.Mem.tail _ (List.Mem.head _)))))))) rfl
theorem k_129 : Cond.classLink RX8 55 RX6 ∈ tb := cm_1_12 (List.Mem.tail _ (List.Mem.tail _ (List.Mem.tail _ (List.Mem.tail _ (List.Mem.tail _ (List.Mem.tail _ (List.Mem.tail _ (List.Mem.tail _ (List.Mem.tail _ (List.Mem.head _)))))))))) rfl
theorem k_130 : Cond.instantiable RX6 8 ∈ tb := cm_1_13 (List.Mem.head _) rfl
theorem k_132 : Cond.instanceMethod yX6_init ∈ tb := cm_1_13 (List.Mem.tail _ (List.Mem.tail _ (List.Mem.head _))) rfl
theorem k_133 : Cond.code yX6_init cX6_init 1 none ∈ tb := cm_1_13 (List.Mem.tail _ (List.Mem.tail _ (List.Mem.tail _ (List.Mem.head _)))) rfl
theorem k_134 : Cond.methodLink RX6 3 objectInit ∈ tb := cm_1_13 (List.Mem.tail _ (List.Mem.tail _ (List.Mem.tail _ (List.Mem.tail _ (List.Mem.head _))))) rfl
theorem k_135 : Cond.classLink RX6 19 RX4 ∈ tb := cm_1_13 (List.Mem.tail _ (List.Mem.tail _ (List.Mem.tail _ (List.Mem.tail _ (List.Mem.tail _ (List.Mem.head _)))))) rfl
theorem k_136 : Cond.instantiable RX4 4 ∈ tb := cm_1_13 (List.Mem.tail _ (List.Mem.tail _ (List.Mem.tail _ (List.Mem.tail _ (List.Mem.tail _ (List.Mem.tail _ (List.Mem.head _))))))) rfl
theorem k_138 : Cond.instanceMethod yX4_init ∈ tb := cm_1_13 (List.Mem.tail _ (List.Mem.tail _ (List.Mem.tail _ (List.Mem.tail _ (List.Mem.tail _ (List.Mem.tail _ (List.Mem.tail _ (List.Mem.tail _ (List.Mem.head _))))))))) rfl
theorem k_139 : Cond.code yX4_init cX4_init 1 none ∈ tb := cm_1_13 (List.Mem.tail _ (List.Mem.tail _ (List.Mem.tail _ (List.Mem.tail _ (List.Mem.tail _ (List.Mem.tail _ (List.Mem.tail _ (List.Mem.tail _ (List.Mem.tail _ (List.Mem.head _)))))))))) rfl
theorem k_140 : Cond.methodLink RX4 3 objectInit ∈ tb := cm_1_14 (List.Mem.head _) rfl
theorem k_141 : Cond.fieldLink RX4 9 "SeaWatches$Rule" "signs" "[I" ∈ tb := cm_1_14 (List.Mem.tail _ (List.Mem.head _)) rfl
theorem k_142 : Cond.fieldLink RX4 15 "SeaWatches$Rule" "values" "[I" ∈ tb := cm_1_14 (List.Mem.tail _ (List.Mem.tail _ (List.Mem.head _))) rfl
theorem k_143 : Cond.fieldLink RX4 18 "SeaWatches$Rule" "stack" "[I" ∈ tb := cm_1_14 (List.Mem.tail _ (List.Mem.tail _ (List.Mem.tail _ (List.Mem.head _)))) rfl
theorem k_144 : Cond.fieldLink RX4 21 "SeaWatches$Rule" "size" "I" ∈ tb := cm_1_14 (List.Mem.tail _ (List.Mem.tail _ (List.Mem.tail _ (List.Mem.tail _ (List.Mem.head _))))) rfl
theorem k_157 : Cond.fieldLink RX6 9 "SeaWatches$Tape" "bytes" "[I" ∈ tb := cm_1_15 (List.Mem.tail _ (List.Mem.tail _ (List.Mem.tail _ (List.Mem.tail _ (List.Mem.tail _ (List.Mem.tail _ (List.Mem.tail _ (List.Mem.head _)))))))) rfl
theorem k_158 : Cond.fieldLink RX6 15 "SeaWatches$Tape" "size" "I" ∈ tb := cm_1_15 (List.Mem.tail _ (List.Mem.tail _ (List.Mem.tail _ (List.Mem.tail _ (List.Mem.tail _ (List.Mem.tail _ (List.Mem.tail _ (List.Mem.tail _ (List.Mem.head _))))))))) rfl
theorem k_160 : Cond.fieldLink RX6 22 "SeaWatches$Tape" "rule" "LSeaWatches$Rule;" ∈ tb := cm_1_16 (List.Mem.head _) rfl
theorem k_161 : Cond.fieldLink RX6 28 "SeaWatches$Tape" "words" "Ljava/lang/String;" ∈ tb := cm_1_16 (List.Mem.tail _ (List.Mem.head _)) rfl
theorem k_162 : Cond.fieldLink RX6 32 "SeaWatches$Tape" "at" "I" ∈ tb := cm_1_16 (List.Mem.tail _ (List.Mem.tail _ (List.Mem.head _))) rfl
theorem k_163 : Cond.fieldLink RX6 35 "SeaWatches$Tape" "word" "I" ∈ tb := cm_1_16 (List.Mem.tail _ (List.Mem.tail _ (List.Mem.tail _ (List.Mem.head _)))) rfl
theorem k_164 : Cond.fieldLink RX6 38 "SeaWatches$Tape" "wordAt" "I" ∈ tb := cm_1_16 (List.Mem.tail _ (List.Mem.tail _ (List.Mem.tail _ (List.Mem.tail _ (List.Mem.head _))))) rfl
theorem k_165 : Cond.fieldLink RX6 41 "SeaWatches$Tape" "value" "I" ∈ tb := cm_1_16 (List.Mem.tail _ (List.Mem.tail _ (List.Mem.tail _ (List.Mem.tail _ (List.Mem.tail _ (List.Mem.head _)))))) rfl
theorem k_183 : Cond.arrayClass .byte ∈ tb := cm_1_18 (List.Mem.tail _ (List.Mem.tail _ (List.Mem.tail _ (List.Mem.head _)))) rfl
theorem k_184 : Cond.classLink RX8 62 RX0 ∈ tb := cm_1_18 (List.Mem.tail _ (List.Mem.tail _ (List.Mem.tail _ (List.Mem.tail _ (List.Mem.head _))))) rfl
theorem k_185 : Cond.instantiable RX0 9 ∈ tb := cm_1_18 (List.Mem.tail _ (List.Mem.tail _ (List.Mem.tail _ (List.Mem.tail _ (List.Mem.tail _ (List.Mem.head _)))))) rfl
theorem k_187 : Cond.instanceMethod yX0_init ∈ tb := cm_1_18 (List.Mem.tail _ (List.Mem.tail _ (List.Mem.tail _ (List.Mem.tail _ (List.Mem.tail _ (List.Mem.tail _ (List.Mem.tail _ (List.Mem.head _)))))))) rfl
theorem k_188 : Cond.code yX0_init cX0_init 1 none ∈ tb := cm_1_18 (List.Mem.tail _ (List.Mem.tail _ (List.Mem.tail _ (List.Mem.tail _ (List.Mem.tail _ (List.Mem.tail _ (List.Mem.tail _ (List.Mem.tail _ (List.Mem.head _))))))))) rfl
theorem k_189 : Cond.methodLink RX0 3 objectInit ∈ tb := cm_1_18 (List.Mem.tail _ (List.Mem.tail _ (List.Mem.tail _ (List.Mem.tail _ (List.Mem.tail _ (List.Mem.tail _ (List.Mem.tail _ (List.Mem.tail _ (List.Mem.tail _ (List.Mem.head _)))))))))) rfl
theorem k_190 : Cond.fieldLink RX0 9 "SeaWatches$Dealing" "doubts" "[I" ∈ tb := cm_1_19 (List.Mem.head _) rfl
theorem k_191 : Cond.fieldLink RX0 15 "SeaWatches$Dealing" "way" "[I" ∈ tb := cm_1_19 (List.Mem.tail _ (List.Mem.head _)) rfl
theorem k_192 : Cond.fieldLink RX0 18 "SeaWatches$Dealing" "best" "[I" ∈ tb := cm_1_19 (List.Mem.tail _ (List.Mem.tail _ (List.Mem.head _))) rfl
theorem k_194 : Cond.fieldLink RX0 21 "SeaWatches$Dealing" "voyages" "[I" ∈ tb := cm_1_19 (List.Mem.tail _ (List.Mem.tail _ (List.Mem.tail _ (List.Mem.tail _ (List.Mem.head _))))) rfl
theorem k_195 : Cond.fieldLink RX0 24 "SeaWatches$Dealing" "given" "[I" ∈ tb := cm_1_19 (List.Mem.tail _ (List.Mem.tail _ (List.Mem.tail _ (List.Mem.tail _ (List.Mem.tail _ (List.Mem.head _)))))) rfl
theorem k_196 : Cond.fieldLink RX0 27 "SeaWatches$Dealing" "listed" "I" ∈ tb := cm_1_19 (List.Mem.tail _ (List.Mem.tail _ (List.Mem.tail _ (List.Mem.tail _ (List.Mem.tail _ (List.Mem.tail _ (List.Mem.head _))))))) rfl
theorem k_198 : Cond.fieldLink RX0 31 "SeaWatches$Dealing" "shared" "I" ∈ tb := cm_1_19 (List.Mem.tail _ (List.Mem.tail _ (List.Mem.tail _ (List.Mem.tail _ (List.Mem.tail _ (List.Mem.tail _ (List.Mem.tail _ (List.Mem.tail _ (List.Mem.head _))))))))) rfl
theorem k_200 : Cond.fieldLink RX0 34 "SeaWatches$Dealing" "sailing" "I" ∈ tb := cm_1_20 (List.Mem.head _) rfl
theorem k_201 : Cond.fieldLink RX0 37 "SeaWatches$Dealing" "leastWorst" "I" ∈ tb := cm_1_20 (List.Mem.tail _ (List.Mem.head _)) rfl
theorem k_221 : Cond.classLink RX8 69 RX4 ∈ tb := cm_1_22 (List.Mem.tail _ (List.Mem.head _)) rfl
theorem k_223 : Cond.instantiable RX5 11 ∈ tb := cm_1_22 (List.Mem.tail _ (List.Mem.tail _ (List.Mem.tail _ (List.Mem.head _)))) rfl
theorem k_225 : Cond.instanceMethod yX5_init ∈ tb := cm_1_22 (List.Mem.tail _ (List.Mem.tail _ (List.Mem.tail _ (List.Mem.tail _ (List.Mem.tail _ (List.Mem.head _)))))) rfl
theorem k_226 : Cond.code yX5_init cX5_init 1 none ∈ tb := cm_1_22 (List.Mem.tail _ (List.Mem.tail _ (List.Mem.tail _ (List.Mem.tail _ (List.Mem.tail _ (List.Mem.tail _ (List.Mem.head _))))))) rfl
theorem k_227 : Cond.methodLink RX5 3 objectInit ∈ tb := cm_1_22 (List.Mem.tail _ (List.Mem.tail _ (List.Mem.tail _ (List.Mem.tail _ (List.Mem.tail _ (List.Mem.tail _ (List.Mem.tail _ (List.Mem.head _)))))))) rfl
theorem k_228 : Cond.fieldLink RX5 9 "SeaWatches$Ship" "places" "[I" ∈ tb := cm_1_22 (List.Mem.tail _ (List.Mem.tail _ (List.Mem.tail _ (List.Mem.tail _ (List.Mem.tail _ (List.Mem.tail _ (List.Mem.tail _ (List.Mem.tail _ (List.Mem.head _))))))))) rfl
theorem k_230 : Cond.fieldLink RX5 15 "SeaWatches$Ship" "starts" "[I" ∈ tb := cm_1_23 (List.Mem.head _) rfl
theorem k_232 : Cond.fieldLink RX5 18 "SeaWatches$Ship" "goings" "[I" ∈ tb := cm_1_23 (List.Mem.tail _ (List.Mem.tail _ (List.Mem.head _))) rfl
theorem k_234 : Cond.fieldLink RX5 21 "SeaWatches$Ship" "doubts" "[I" ∈ tb := cm_1_23 (List.Mem.tail _ (List.Mem.tail _ (List.Mem.tail _ (List.Mem.tail _ (List.Mem.head _))))) rfl
theorem k_236 : Cond.fieldLink RX5 24 "SeaWatches$Ship" "ends" "[I" ∈ tb := cm_1_23 (List.Mem.tail _ (List.Mem.tail _ (List.Mem.tail _ (List.Mem.tail _ (List.Mem.tail _ (List.Mem.tail _ (List.Mem.head _))))))) rfl
theorem k_238 : Cond.fieldLink RX5 27 "SeaWatches$Ship" "sightDays" "[I" ∈ tb := cm_1_23 (List.Mem.tail _ (List.Mem.tail _ (List.Mem.tail _ (List.Mem.tail _ (List.Mem.tail _ (List.Mem.tail _ (List.Mem.tail _ (List.Mem.tail _ (List.Mem.head _))))))))) rfl
theorem k_240 : Cond.fieldLink RX5 30 "SeaWatches$Ship" "shown" "[I" ∈ tb := cm_2_0 (List.Mem.head _) rfl
theorem k_241 : Cond.fieldLink RX5 33 "SeaWatches$Ship" "sights" "I" ∈ tb := cm_2_0 (List.Mem.tail _ (List.Mem.head _)) rfl
theorem k_243 : Cond.fieldLink RX5 37 "SeaWatches$Ship" "stage" "I" ∈ tb := cm_2_0 (List.Mem.tail _ (List.Mem.tail _ (List.Mem.tail _ (List.Mem.head _)))) rfl
theorem k_245 : Cond.fieldLink RX5 40 "SeaWatches$Ship" "sailed" "I" ∈ tb := cm_2_0 (List.Mem.tail _ (List.Mem.tail _ (List.Mem.tail _ (List.Mem.tail _ (List.Mem.tail _ (List.Mem.head _)))))) rfl
theorem k_247 : Cond.fieldLink RX5 43 "SeaWatches$Ship" "voyage" "I" ∈ tb := cm_2_0 (List.Mem.tail _ (List.Mem.tail _ (List.Mem.tail _ (List.Mem.tail _ (List.Mem.tail _ (List.Mem.tail _ (List.Mem.tail _ (List.Mem.head _)))))))) rfl
theorem k_272 : Cond.fieldLink RX8 9 "SeaWatches" "warmths" "[I" ∈ tb := cm_2_3 (List.Mem.tail _ (List.Mem.tail _ (List.Mem.head _))) rfl
theorem k_273 : Cond.fieldLink RX8 13 "SeaWatches" "kinds" "[I" ∈ tb := cm_2_3 (List.Mem.tail _ (List.Mem.tail _ (List.Mem.tail _ (List.Mem.head _)))) rfl
theorem k_274 : Cond.fieldLink RX8 16 "SeaWatches" "numbers" "[I" ∈ tb := cm_2_3 (List.Mem.tail _ (List.Mem.tail _ (List.Mem.tail _ (List.Mem.tail _ (List.Mem.head _))))) rfl
theorem k_275 : Cond.fieldLink RX8 21 "SeaWatches" "watches" "[LSeaWatches$Watch;" ∈ tb := cm_2_3 (List.Mem.tail _ (List.Mem.tail _ (List.Mem.tail _ (List.Mem.tail _ (List.Mem.tail _ (List.Mem.head _)))))) rfl
theorem k_276 : Cond.fieldLink RX8 27 "SeaWatches" "ships" "[LSeaWatches$Ship;" ∈ tb := cm_2_3 (List.Mem.tail _ (List.Mem.tail _ (List.Mem.tail _ (List.Mem.tail _ (List.Mem.tail _ (List.Mem.tail _ (List.Mem.head _))))))) rfl
theorem k_277 : Cond.fieldLink RX8 31 "SeaWatches" "names" "[I" ∈ tb := cm_2_3 (List.Mem.tail _ (List.Mem.tail _ (List.Mem.tail _ (List.Mem.tail _ (List.Mem.tail _ (List.Mem.tail _ (List.Mem.tail _ (List.Mem.head _)))))))) rfl
theorem k_278 : Cond.fieldLink RX8 37 "SeaWatches" "offs" "LSeaWatches$Offs;" ∈ tb := cm_2_3 (List.Mem.tail _ (List.Mem.tail _ (List.Mem.tail _ (List.Mem.tail _ (List.Mem.tail _ (List.Mem.tail _ (List.Mem.tail _ (List.Mem.tail _ (List.Mem.head _))))))))) rfl
theorem k_279 : Cond.fieldLink RX8 44 "SeaWatches" "rates" "LSeaWatches$Rates;" ∈ tb := cm_2_3 (List.Mem.tail _ (List.Mem.tail _ (List.Mem.tail _ (List.Mem.tail _ (List.Mem.tail _ (List.Mem.tail _ (List.Mem.tail _ (List.Mem.tail _ (List.Mem.tail _ (List.Mem.head _)))))))))) rfl
theorem k_280 : Cond.fieldLink RX8 51 "SeaWatches" "fit" "LSeaWatches$Fit;" ∈ tb := cm_2_4 (List.Mem.head _) rfl
theorem k_281 : Cond.fieldLink RX8 58 "SeaWatches" "tape" "LSeaWatches$Tape;" ∈ tb := cm_2_4 (List.Mem.tail _ (List.Mem.head _)) rfl
theorem k_282 : Cond.fieldLink RX8 65 "SeaWatches" "dealing" "LSeaWatches$Dealing;" ∈ tb := cm_2_4 (List.Mem.tail _ (List.Mem.tail _ (List.Mem.head _))) rfl
theorem k_283 : Cond.fieldLink RX8 72 "SeaWatches" "trialRule" "LSeaWatches$Rule;" ∈ tb := cm_2_4 (List.Mem.tail _ (List.Mem.tail _ (List.Mem.tail _ (List.Mem.head _)))) rfl
theorem k_284 : Cond.fieldLink RX8 76 "SeaWatches" "dropRule" "LSeaWatches$Rule;" ∈ tb := cm_2_4 (List.Mem.tail _ (List.Mem.tail _ (List.Mem.tail _ (List.Mem.tail _ (List.Mem.head _))))) rfl
theorem k_285 : Cond.fieldLink RX8 79 "SeaWatches" "today" "I" ∈ tb := cm_2_4 (List.Mem.tail _ (List.Mem.tail _ (List.Mem.tail _ (List.Mem.tail _ (List.Mem.tail _ (List.Mem.head _)))))) rfl
theorem k_315 : Cond.methodLink R_law 13 yX8_days ∈ tb := cm_2_7 (List.Mem.tail _ (List.Mem.tail _ (List.Mem.tail _ (List.Mem.tail _ (List.Mem.tail _ (List.Mem.head _)))))) rfl
theorem k_316 : Cond.instanceMethod yX8_days ∈ tb := cm_2_7 (List.Mem.tail _ (List.Mem.tail _ (List.Mem.tail _ (List.Mem.tail _ (List.Mem.tail _ (List.Mem.tail _ (List.Mem.head _))))))) rfl
theorem k_317 : Cond.selects RX8 yX8_days yX8_days ∈ tb := cm_2_7 (List.Mem.tail _ (List.Mem.tail _ (List.Mem.tail _ (List.Mem.tail _ (List.Mem.tail _ (List.Mem.tail _ (List.Mem.tail _ (List.Mem.head _)))))))) rfl
theorem k_318 : Cond.code yX8_days cX8_days 2 (some .int) ∈ tb := cm_2_7 (List.Mem.tail _ (List.Mem.tail _ (List.Mem.tail _ (List.Mem.tail _ (List.Mem.tail _ (List.Mem.tail _ (List.Mem.tail _ (List.Mem.tail _ (List.Mem.head _))))))))) rfl
theorem k_319 : Cond.methodLink R_law 18 yX8_warmth ∈ tb := cm_2_7 (List.Mem.tail _ (List.Mem.tail _ (List.Mem.tail _ (List.Mem.tail _ (List.Mem.tail _ (List.Mem.tail _ (List.Mem.tail _ (List.Mem.tail _ (List.Mem.tail _ (List.Mem.head _)))))))))) rfl
theorem k_320 : Cond.instanceMethod yX8_warmth ∈ tb := cm_2_8 (List.Mem.head _) rfl
theorem k_321 : Cond.selects RX8 yX8_warmth yX8_warmth ∈ tb := cm_2_8 (List.Mem.tail _ (List.Mem.head _)) rfl
theorem k_322 : Cond.code yX8_warmth cX8_warmth 3 (some .int) ∈ tb := cm_2_8 (List.Mem.tail _ (List.Mem.tail _ (List.Mem.head _))) rfl
theorem k_323 : Cond.methodLink RX8 84 yX8_isDay ∈ tb := cm_2_8 (List.Mem.tail _ (List.Mem.tail _ (List.Mem.tail _ (List.Mem.head _)))) rfl
theorem k_324 : Cond.static yX8_isDay ∈ tb := cm_2_8 (List.Mem.tail _ (List.Mem.tail _ (List.Mem.tail _ (List.Mem.tail _ (List.Mem.head _))))) rfl
theorem k_325 : Cond.code yX8_isDay cX8_isDay 1 (some .boolean) ∈ tb := cm_2_8 (List.Mem.tail _ (List.Mem.tail _ (List.Mem.tail _ (List.Mem.tail _ (List.Mem.tail _ (List.Mem.head _)))))) rfl
theorem k_326 : Cond.methodLink RX8 88 yX8_isWithin ∈ tb := cm_2_8 (List.Mem.tail _ (List.Mem.tail _ (List.Mem.tail _ (List.Mem.tail _ (List.Mem.tail _ (List.Mem.tail _ (List.Mem.head _))))))) rfl
theorem k_327 : Cond.static yX8_isWithin ∈ tb := cm_2_8 (List.Mem.tail _ (List.Mem.tail _ (List.Mem.tail _ (List.Mem.tail _ (List.Mem.tail _ (List.Mem.tail _ (List.Mem.tail _ (List.Mem.head _)))))))) rfl
theorem k_328 : Cond.code yX8_isWithin cX8_isWithin 2 (some .boolean) ∈ tb := cm_2_8 (List.Mem.tail _ (List.Mem.tail _ (List.Mem.tail _ (List.Mem.tail _ (List.Mem.tail _ (List.Mem.tail _ (List.Mem.tail _ (List.Mem.tail _ (List.Mem.head _))))))))) rfl
theorem k_329 : Cond.methodLink R_law 23 yX8_put ∈ tb := cm_2_8 (List.Mem.tail _ (List.Mem.tail _ (List.Mem.tail _ (List.Mem.tail _ (List.Mem.tail _ (List.Mem.tail _ (List.Mem.tail _ (List.Mem.tail _ (List.Mem.tail _ (List.Mem.head _)))))))))) rfl
theorem k_330 : Cond.instanceMethod yX8_put ∈ tb := cm_2_9 (List.Mem.head _) rfl
theorem k_331 : Cond.selects RX8 yX8_put yX8_put ∈ tb := cm_2_9 (List.Mem.tail _ (List.Mem.head _)) rfl
theorem k_332 : Cond.code yX8_put cX8_put 4 (some .int) ∈ tb := cm_2_9 (List.Mem.tail _ (List.Mem.tail _ (List.Mem.head _))) rfl
theorem k_333 : Cond.methodLink RX8 92 yX8_isPlace ∈ tb := cm_2_9 (List.Mem.tail _ (List.Mem.tail _ (List.Mem.tail _ (List.Mem.head _)))) rfl
theorem k_334 : Cond.static yX8_isPlace ∈ tb := cm_2_9 (List.Mem.tail _ (List.Mem.tail _ (List.Mem.tail _ (List.Mem.tail _ (List.Mem.head _))))) rfl
theorem k_335 : Cond.code yX8_isPlace cX8_isPlace 1 (some .boolean) ∈ tb := cm_2_9 (List.Mem.tail _ (List.Mem.tail _ (List.Mem.tail _ (List.Mem.tail _ (List.Mem.tail _ (List.Mem.head _)))))) rfl
theorem k_336 : Cond.methodLink RX8 95 yX8_fitsKind ∈ tb := cm_2_9 (List.Mem.tail _ (List.Mem.tail _ (List.Mem.tail _ (List.Mem.tail _ (List.Mem.tail _ (List.Mem.tail _ (List.Mem.head _))))))) rfl
theorem k_337 : Cond.static yX8_fitsKind ∈ tb := cm_2_9 (List.Mem.tail _ (List.Mem.tail _ (List.Mem.tail _ (List.Mem.tail _ (List.Mem.tail _ (List.Mem.tail _ (List.Mem.tail _ (List.Mem.head _)))))))) rfl
theorem k_338 : Cond.code yX8_fitsKind cX8_fitsKind 2 (some .boolean) ∈ tb := cm_2_9 (List.Mem.tail _ (List.Mem.tail _ (List.Mem.tail _ (List.Mem.tail _ (List.Mem.tail _ (List.Mem.tail _ (List.Mem.tail _ (List.Mem.tail _ (List.Mem.head _))))))))) rfl
theorem k_339 : Cond.methodLink RX8 98 yX8_bringWatch ∈ tb := cm_2_9 (List.Mem.tail _ (List.Mem.tail _ (List.Mem.tail _ (List.Mem.tail _ (List.Mem.tail _ (List.Mem.tail _ (List.Mem.tail _ (List.Mem.tail _ (List.Mem.tail _ (List.Mem.head _)))))))))) rfl
theorem k_341 : Cond.instanceMethod yX8_bringWatch ∈ tb := cm_2_10 (List.Mem.tail _ (List.Mem.head _)) rfl
theorem k_342 : Cond.code yX8_bringWatch cX8_bringWatch 2 none ∈ tb := cm_2_10 (List.Mem.tail _ (List.Mem.tail _ (List.Mem.head _))) rfl
theorem k_343 : Cond.instantiable RX7 4 ∈ tb := cm_2_10 (List.Mem.tail _ (List.Mem.tail _ (List.Mem.tail _ (List.Mem.head _)))) rfl
theorem k_345 : Cond.instanceMethod yX7_init ∈ tb := cm_2_10 (List.Mem.tail _ (List.Mem.tail _ (List.Mem.tail _ (List.Mem.tail _ (List.Mem.tail _ (List.Mem.head _)))))) rfl
theorem k_346 : Cond.code yX7_init cX7_init 1 none ∈ tb := cm_2_10 (List.Mem.tail _ (List.Mem.tail _ (List.Mem.tail _ (List.Mem.tail _ (List.Mem.tail _ (List.Mem.tail _ (List.Mem.head _))))))) rfl
theorem k_347 : Cond.methodLink RX7 3 objectInit ∈ tb := cm_2_10 (List.Mem.tail _ (List.Mem.tail _ (List.Mem.tail _ (List.Mem.tail _ (List.Mem.tail _ (List.Mem.tail _ (List.Mem.tail _ (List.Mem.head _)))))))) rfl
theorem k_348 : Cond.fieldLink RX7 9 "SeaWatches$Watch" "tolds" "[I" ∈ tb := cm_2_10 (List.Mem.tail _ (List.Mem.tail _ (List.Mem.tail _ (List.Mem.tail _ (List.Mem.tail _ (List.Mem.tail _ (List.Mem.tail _ (List.Mem.tail _ (List.Mem.head _))))))))) rfl
theorem k_349 : Cond.fieldLink RX7 15 "SeaWatches$Watch" "sources" "[I" ∈ tb := cm_2_10 (List.Mem.tail _ (List.Mem.tail _ (List.Mem.tail _ (List.Mem.tail _ (List.Mem.tail _ (List.Mem.tail _ (List.Mem.tail _ (List.Mem.tail _ (List.Mem.tail _ (List.Mem.head _)))))))))) rfl
theorem k_350 : Cond.fieldLink RX7 18 "SeaWatches$Watch" "marks" "[I" ∈ tb := cm_2_11 (List.Mem.head _) rfl
theorem k_351 : Cond.fieldLink RX7 21 "SeaWatches$Watch" "holders" "[I" ∈ tb := cm_2_11 (List.Mem.tail _ (List.Mem.head _)) rfl
theorem k_361 : Cond.methodLink RX8 302 yX7_becomeNew ∈ tb := cm_2_12 (List.Mem.tail _ (List.Mem.head _)) rfl
theorem k_362 : Cond.instanceMethod yX7_becomeNew ∈ tb := cm_2_12 (List.Mem.tail _ (List.Mem.tail _ (List.Mem.head _))) rfl
theorem k_363 : Cond.selects RX7 yX7_becomeNew yX7_becomeNew ∈ tb := cm_2_12 (List.Mem.tail _ (List.Mem.tail _ (List.Mem.tail _ (List.Mem.head _)))) rfl
theorem k_364 : Cond.code yX7_becomeNew cX7_becomeNew 2 none ∈ tb := cm_2_12 (List.Mem.tail _ (List.Mem.tail _ (List.Mem.tail _ (List.Mem.tail _ (List.Mem.head _))))) rfl
theorem k_365 : Cond.methodLink R_law 28 yX8_take ∈ tb := cm_2_12 (List.Mem.tail _ (List.Mem.tail _ (List.Mem.tail _ (List.Mem.tail _ (List.Mem.tail _ (List.Mem.head _)))))) rfl
theorem k_366 : Cond.instanceMethod yX8_take ∈ tb := cm_2_12 (List.Mem.tail _ (List.Mem.tail _ (List.Mem.tail _ (List.Mem.tail _ (List.Mem.tail _ (List.Mem.tail _ (List.Mem.head _))))))) rfl
theorem k_367 : Cond.selects RX8 yX8_take yX8_take ∈ tb := cm_2_12 (List.Mem.tail _ (List.Mem.tail _ (List.Mem.tail _ (List.Mem.tail _ (List.Mem.tail _ (List.Mem.tail _ (List.Mem.tail _ (List.Mem.head _)))))))) rfl
theorem k_368 : Cond.code yX8_take cX8_take 3 (some .int) ∈ tb := cm_2_12 (List.Mem.tail _ (List.Mem.tail _ (List.Mem.tail _ (List.Mem.tail _ (List.Mem.tail _ (List.Mem.tail _ (List.Mem.tail _ (List.Mem.tail _ (List.Mem.head _))))))))) rfl
theorem k_369 : Cond.methodLink RX8 102 yX8_watchAt ∈ tb := cm_2_12 (List.Mem.tail _ (List.Mem.tail _ (List.Mem.tail _ (List.Mem.tail _ (List.Mem.tail _ (List.Mem.tail _ (List.Mem.tail _ (List.Mem.tail _ (List.Mem.tail _ (List.Mem.head _)))))))))) rfl
theorem k_371 : Cond.instanceMethod yX8_watchAt ∈ tb := cm_2_13 (List.Mem.tail _ (List.Mem.head _)) rfl
theorem k_372 : Cond.code yX8_watchAt cX8_watchAt 2 (some (.object "SeaWatches$Watch")) ∈ tb := cm_2_13 (List.Mem.tail _ (List.Mem.tail _ (List.Mem.head _))) rfl
theorem k_373 : Cond.methodLink RX8 106 yX7_holderOn ∈ tb := cm_2_13 (List.Mem.tail _ (List.Mem.tail _ (List.Mem.tail _ (List.Mem.head _)))) rfl
theorem k_374 : Cond.instanceMethod yX7_holderOn ∈ tb := cm_2_13 (List.Mem.tail _ (List.Mem.tail _ (List.Mem.tail _ (List.Mem.tail _ (List.Mem.head _))))) rfl
theorem k_375 : Cond.selects RX7 yX7_holderOn yX7_holderOn ∈ tb := cm_2_13 (List.Mem.tail _ (List.Mem.tail _ (List.Mem.tail _ (List.Mem.tail _ (List.Mem.tail _ (List.Mem.head _)))))) rfl
theorem k_376 : Cond.code yX7_holderOn cX7_holderOn 2 (some .int) ∈ tb := cm_2_13 (List.Mem.tail _ (List.Mem.tail _ (List.Mem.tail _ (List.Mem.tail _ (List.Mem.tail _ (List.Mem.tail _ (List.Mem.head _))))))) rfl
theorem k_378 : Cond.methodLink R_law 32 yX8_holds ∈ tb := cm_2_13 (List.Mem.tail _ (List.Mem.tail _ (List.Mem.tail _ (List.Mem.tail _ (List.Mem.tail _ (List.Mem.tail _ (List.Mem.tail _ (List.Mem.tail _ (List.Mem.head _))))))))) rfl
theorem k_379 : Cond.instanceMethod yX8_holds ∈ tb := cm_2_13 (List.Mem.tail _ (List.Mem.tail _ (List.Mem.tail _ (List.Mem.tail _ (List.Mem.tail _ (List.Mem.tail _ (List.Mem.tail _ (List.Mem.tail _ (List.Mem.tail _ (List.Mem.head _)))))))))) rfl
theorem k_380 : Cond.selects RX8 yX8_holds yX8_holds ∈ tb := cm_2_14 (List.Mem.head _) rfl
theorem k_381 : Cond.code yX8_holds cX8_holds 2 (some .int) ∈ tb := cm_2_14 (List.Mem.tail _ (List.Mem.head _)) rfl
theorem k_382 : Cond.methodLink R_law 36 yX8_read ∈ tb := cm_2_14 (List.Mem.tail _ (List.Mem.tail _ (List.Mem.head _))) rfl
theorem k_383 : Cond.instanceMethod yX8_read ∈ tb := cm_2_14 (List.Mem.tail _ (List.Mem.tail _ (List.Mem.tail _ (List.Mem.head _)))) rfl
theorem k_384 : Cond.selects RX8 yX8_read yX8_read ∈ tb := cm_2_14 (List.Mem.tail _ (List.Mem.tail _ (List.Mem.tail _ (List.Mem.tail _ (List.Mem.head _))))) rfl
theorem k_385 : Cond.code yX8_read cX8_read 2 (some .int) ∈ tb := cm_2_14 (List.Mem.tail _ (List.Mem.tail _ (List.Mem.tail _ (List.Mem.tail _ (List.Mem.tail _ (List.Mem.head _)))))) rfl
theorem k_386 : Cond.constant RX8 110 (-2000000000) ∈ tb := cm_2_14 (List.Mem.tail _ (List.Mem.tail _ (List.Mem.tail _ (List.Mem.tail _ (List.Mem.tail _ (List.Mem.tail _ (List.Mem.head _))))))) rfl
theorem k_387 : Cond.methodLink R_law 40 yX8_compare ∈ tb := cm_2_14 (List.Mem.tail _ (List.Mem.tail _ (List.Mem.tail _ (List.Mem.tail _ (List.Mem.tail _ (List.Mem.tail _ (List.Mem.tail _ (List.Mem.head _)))))))) rfl
theorem k_388 : Cond.instanceMethod yX8_compare ∈ tb := cm_2_14 (List.Mem.tail _ (List.Mem.tail _ (List.Mem.tail _ (List.Mem.tail _ (List.Mem.tail _ (List.Mem.tail _ (List.Mem.tail _ (List.Mem.tail _ (List.Mem.head _))))))))) rfl
theorem k_389 : Cond.selects RX8 yX8_compare yX8_compare ∈ tb := cm_2_14 (List.Mem.tail _ (List.Mem.tail _ (List.Mem.tail _ (List.Mem.tail _ (List.Mem.tail _ (List.Mem.tail _ (List.Mem.tail _ (List.Mem.tail _ (List.Mem.tail _ (List.Mem.head _)))))))))) rfl
theorem k_390 : Cond.code yX8_compare cX8_compare 6 (some .int) ∈ tb := cm_2_15 (List.Mem.head _) rfl
theorem k_391 : Cond.methodLink RX8 111 yX8_isPast ∈ tb := cm_2_15 (List.Mem.tail _ (List.Mem.head _)) rfl
theorem k_393 : Cond.instanceMethod yX8_isPast ∈ tb := cm_2_15 (List.Mem.tail _ (List.Mem.tail _ (List.Mem.tail _ (List.Mem.head _)))) rfl
theorem k_394 : Cond.code yX8_isPast cX8_isPast 2 (some .boolean) ∈ tb := cm_2_15 (List.Mem.tail _ (List.Mem.tail _ (List.Mem.tail _ (List.Mem.tail _ (List.Mem.head _))))) rfl
theorem k_395 : Cond.constant RX8 114 100000 ∈ tb := cm_2_15 (List.Mem.tail _ (List.Mem.tail _ (List.Mem.tail _ (List.Mem.tail _ (List.Mem.tail _ (List.Mem.head _)))))) rfl
theorem k_396 : Cond.methodLink RX8 115 yX8_lackAt ∈ tb := cm_2_15 (List.Mem.tail _ (List.Mem.tail _ (List.Mem.tail _ (List.Mem.tail _ (List.Mem.tail _ (List.Mem.tail _ (List.Mem.head _))))))) rfl
theorem k_398 : Cond.instanceMethod yX8_lackAt ∈ tb := cm_2_15 (List.Mem.tail _ (List.Mem.tail _ (List.Mem.tail _ (List.Mem.tail _ (List.Mem.tail _ (List.Mem.tail _ (List.Mem.tail _ (List.Mem.tail _ (List.Mem.head _))))))))) rfl
theorem k_399 : Cond.code yX8_lackAt cX8_lackAt 2 (some .int) ∈ tb := cm_2_15 (List.Mem.tail _ (List.Mem.tail _ (List.Mem.tail _ (List.Mem.tail _ (List.Mem.tail _ (List.Mem.tail _ (List.Mem.tail _ (List.Mem.tail _ (List.Mem.tail _ (List.Mem.head _)))))))))) rfl
theorem k_400 : Cond.methodLink RX8 118 yX7_isCompared ∈ tb := cm_2_16 (List.Mem.head _) rfl
theorem k_401 : Cond.instanceMethod yX7_isCompared ∈ tb := cm_2_16 (List.Mem.tail _ (List.Mem.head _)) rfl
theorem k_402 : Cond.selects RX7 yX7_isCompared yX7_isCompared ∈ tb := cm_2_16 (List.Mem.tail _ (List.Mem.tail _ (List.Mem.head _))) rfl
theorem k_403 : Cond.code yX7_isCompared cX7_isCompared 2 (some .boolean) ∈ tb := cm_2_16 (List.Mem.tail _ (List.Mem.tail _ (List.Mem.tail _ (List.Mem.head _)))) rfl
theorem k_404 : Cond.methodLink RX8 121 yX7_tell ∈ tb := cm_2_16 (List.Mem.tail _ (List.Mem.tail _ (List.Mem.tail _ (List.Mem.tail _ (List.Mem.head _))))) rfl
theorem k_405 : Cond.instanceMethod yX7_tell ∈ tb := cm_2_16 (List.Mem.tail _ (List.Mem.tail _ (List.Mem.tail _ (List.Mem.tail _ (List.Mem.tail _ (List.Mem.head _)))))) rfl
theorem k_406 : Cond.selects RX7 yX7_tell yX7_tell ∈ tb := cm_2_16 (List.Mem.tail _ (List.Mem.tail _ (List.Mem.tail _ (List.Mem.tail _ (List.Mem.tail _ (List.Mem.tail _ (List.Mem.head _))))))) rfl
theorem k_407 : Cond.code yX7_tell cX7_tell 4 none ∈ tb := cm_2_16 (List.Mem.tail _ (List.Mem.tail _ (List.Mem.tail _ (List.Mem.tail _ (List.Mem.tail _ (List.Mem.tail _ (List.Mem.tail _ (List.Mem.head _)))))))) rfl
theorem k_408 : Cond.methodLink R_law 45 yX8_error ∈ tb := cm_2_16 (List.Mem.tail _ (List.Mem.tail _ (List.Mem.tail _ (List.Mem.tail _ (List.Mem.tail _ (List.Mem.tail _ (List.Mem.tail _ (List.Mem.tail _ (List.Mem.head _))))))))) rfl
theorem k_409 : Cond.instanceMethod yX8_error ∈ tb := cm_2_16 (List.Mem.tail _ (List.Mem.tail _ (List.Mem.tail _ (List.Mem.tail _ (List.Mem.tail _ (List.Mem.tail _ (List.Mem.tail _ (List.Mem.tail _ (List.Mem.tail _ (List.Mem.head _)))))))))) rfl
theorem k_410 : Cond.selects RX8 yX8_error yX8_error ∈ tb := cm_2_17 (List.Mem.head _) rfl
theorem k_411 : Cond.code yX8_error cX8_error 5 (some .int) ∈ tb := cm_2_17 (List.Mem.tail _ (List.Mem.head _)) rfl
theorem k_412 : Cond.methodLink RX8 125 yX8_isKnowledge ∈ tb := cm_2_17 (List.Mem.tail _ (List.Mem.tail _ (List.Mem.head _))) rfl
theorem k_413 : Cond.static yX8_isKnowledge ∈ tb := cm_2_17 (List.Mem.tail _ (List.Mem.tail _ (List.Mem.tail _ (List.Mem.head _)))) rfl
theorem k_414 : Cond.code yX8_isKnowledge cX8_isKnowledge 1 (some .boolean) ∈ tb := cm_2_17 (List.Mem.tail _ (List.Mem.tail _ (List.Mem.tail _ (List.Mem.tail _ (List.Mem.head _))))) rfl
theorem k_415 : Cond.methodLink RX8 128 yX7_errorAsKnown ∈ tb := cm_2_17 (List.Mem.tail _ (List.Mem.tail _ (List.Mem.tail _ (List.Mem.tail _ (List.Mem.tail _ (List.Mem.head _)))))) rfl
theorem k_416 : Cond.instanceMethod yX7_errorAsKnown ∈ tb := cm_2_17 (List.Mem.tail _ (List.Mem.tail _ (List.Mem.tail _ (List.Mem.tail _ (List.Mem.tail _ (List.Mem.tail _ (List.Mem.head _))))))) rfl
theorem k_417 : Cond.selects RX7 yX7_errorAsKnown yX7_errorAsKnown ∈ tb := cm_2_17 (List.Mem.tail _ (List.Mem.tail _ (List.Mem.tail _ (List.Mem.tail _ (List.Mem.tail _ (List.Mem.tail _ (List.Mem.tail _ (List.Mem.head _)))))))) rfl
theorem k_418 : Cond.code yX7_errorAsKnown cX7_errorAsKnown 4 (some .int) ∈ tb := cm_2_17 (List.Mem.tail _ (List.Mem.tail _ (List.Mem.tail _ (List.Mem.tail _ (List.Mem.tail _ (List.Mem.tail _ (List.Mem.tail _ (List.Mem.tail _ (List.Mem.head _))))))))) rfl
theorem k_419 : Cond.methodLink RX7 28 yX7_isCompared ∈ tb := cm_2_17 (List.Mem.tail _ (List.Mem.tail _ (List.Mem.tail _ (List.Mem.tail _ (List.Mem.tail _ (List.Mem.tail _ (List.Mem.tail _ (List.Mem.tail _ (List.Mem.tail _ (List.Mem.head _)))))))))) rfl
theorem k_420 : Cond.methodLink RX7 31 yX2_sumFor ∈ tb := cm_2_18 (List.Mem.head _) rfl
theorem k_421 : Cond.instanceMethod yX2_sumFor ∈ tb := cm_2_18 (List.Mem.tail _ (List.Mem.head _)) rfl
theorem k_422 : Cond.selects RX2 yX2_sumFor yX2_sumFor ∈ tb := cm_2_18 (List.Mem.tail _ (List.Mem.tail _ (List.Mem.head _))) rfl
theorem k_423 : Cond.code yX2_sumFor cX2_sumFor 6 (some .int) ∈ tb := cm_2_18 (List.Mem.tail _ (List.Mem.tail _ (List.Mem.tail _ (List.Mem.head _)))) rfl
theorem k_424 : Cond.constant RX7 37 (-2000000000) ∈ tb := cm_2_18 (List.Mem.tail _ (List.Mem.tail _ (List.Mem.tail _ (List.Mem.tail _ (List.Mem.head _))))) rfl
theorem k_425 : Cond.methodLink R_law 49 yX8_rate ∈ tb := cm_2_18 (List.Mem.tail _ (List.Mem.tail _ (List.Mem.tail _ (List.Mem.tail _ (List.Mem.tail _ (List.Mem.head _)))))) rfl
theorem k_426 : Cond.instanceMethod yX8_rate ∈ tb := cm_2_18 (List.Mem.tail _ (List.Mem.tail _ (List.Mem.tail _ (List.Mem.tail _ (List.Mem.tail _ (List.Mem.tail _ (List.Mem.head _))))))) rfl
theorem k_427 : Cond.selects RX8 yX8_rate yX8_rate ∈ tb := cm_2_18 (List.Mem.tail _ (List.Mem.tail _ (List.Mem.tail _ (List.Mem.tail _ (List.Mem.tail _ (List.Mem.tail _ (List.Mem.tail _ (List.Mem.head _)))))))) rfl
theorem k_428 : Cond.code yX8_rate cX8_rate 5 (some .int) ∈ tb := cm_2_18 (List.Mem.tail _ (List.Mem.tail _ (List.Mem.tail _ (List.Mem.tail _ (List.Mem.tail _ (List.Mem.tail _ (List.Mem.tail _ (List.Mem.tail _ (List.Mem.head _))))))))) rfl
theorem k_429 : Cond.methodLink RX8 132 yX7_rateAsKnown ∈ tb := cm_2_18 (List.Mem.tail _ (List.Mem.tail _ (List.Mem.tail _ (List.Mem.tail _ (List.Mem.tail _ (List.Mem.tail _ (List.Mem.tail _ (List.Mem.tail _ (List.Mem.tail _ (List.Mem.head _)))))))))) rfl
theorem k_430 : Cond.instanceMethod yX7_rateAsKnown ∈ tb := cm_2_19 (List.Mem.head _) rfl
theorem k_431 : Cond.selects RX7 yX7_rateAsKnown yX7_rateAsKnown ∈ tb := cm_2_19 (List.Mem.tail _ (List.Mem.head _)) rfl
theorem k_432 : Cond.code yX7_rateAsKnown cX7_rateAsKnown 4 (some .int) ∈ tb := cm_2_19 (List.Mem.tail _ (List.Mem.tail _ (List.Mem.head _))) rfl
theorem k_433 : Cond.methodLink RX7 38 yX7_errorAsKnown ∈ tb := cm_2_19 (List.Mem.tail _ (List.Mem.tail _ (List.Mem.tail _ (List.Mem.head _)))) rfl
theorem k_434 : Cond.methodLink RX7 42 yX7_rateBetween ∈ tb := cm_2_19 (List.Mem.tail _ (List.Mem.tail _ (List.Mem.tail _ (List.Mem.tail _ (List.Mem.head _))))) rfl
theorem k_435 : Cond.instanceMethod yX7_rateBetween ∈ tb := cm_2_19 (List.Mem.tail _ (List.Mem.tail _ (List.Mem.tail _ (List.Mem.tail _ (List.Mem.tail _ (List.Mem.head _)))))) rfl
theorem k_436 : Cond.selects RX7 yX7_rateBetween yX7_rateBetween ∈ tb := cm_2_19 (List.Mem.tail _ (List.Mem.tail _ (List.Mem.tail _ (List.Mem.tail _ (List.Mem.tail _ (List.Mem.tail _ (List.Mem.head _))))))) rfl
theorem k_437 : Cond.code yX7_rateBetween cX7_rateBetween 4 (some .int) ∈ tb := cm_2_19 (List.Mem.tail _ (List.Mem.tail _ (List.Mem.tail _ (List.Mem.tail _ (List.Mem.tail _ (List.Mem.tail _ (List.Mem.tail _ (List.Mem.head _)))))))) rfl
theorem k_439 : Cond.methodLink RX7 49 yX7_isMarked ∈ tb := cm_2_19 (List.Mem.tail _ (List.Mem.tail _ (List.Mem.tail _ (List.Mem.tail _ (List.Mem.tail _ (List.Mem.tail _ (List.Mem.tail _ (List.Mem.tail _ (List.Mem.tail _ (List.Mem.head _)))))))))) rfl
theorem k_440 : Cond.instanceMethod yX7_isMarked ∈ tb := cm_2_20 (List.Mem.head _) rfl
theorem k_441 : Cond.selects RX7 yX7_isMarked yX7_isMarked ∈ tb := cm_2_20 (List.Mem.tail _ (List.Mem.head _)) rfl
theorem k_442 : Cond.code yX7_isMarked cX7_isMarked 3 (some .boolean) ∈ tb := cm_2_20 (List.Mem.tail _ (List.Mem.tail _ (List.Mem.head _))) rfl
theorem k_443 : Cond.methodLink R_law 53 yX8_repair ∈ tb := cm_2_20 (List.Mem.tail _ (List.Mem.tail _ (List.Mem.tail _ (List.Mem.head _)))) rfl
theorem k_444 : Cond.instanceMethod yX8_repair ∈ tb := cm_2_20 (List.Mem.tail _ (List.Mem.tail _ (List.Mem.tail _ (List.Mem.tail _ (List.Mem.head _))))) rfl
theorem k_445 : Cond.selects RX8 yX8_repair yX8_repair ∈ tb := cm_2_20 (List.Mem.tail _ (List.Mem.tail _ (List.Mem.tail _ (List.Mem.tail _ (List.Mem.tail _ (List.Mem.head _)))))) rfl
theorem k_446 : Cond.code yX8_repair cX8_repair 3 (some .int) ∈ tb := cm_2_20 (List.Mem.tail _ (List.Mem.tail _ (List.Mem.tail _ (List.Mem.tail _ (List.Mem.tail _ (List.Mem.tail _ (List.Mem.head _))))))) rfl
theorem k_447 : Cond.methodLink RX8 135 yX8_markOn ∈ tb := cm_2_20 (List.Mem.tail _ (List.Mem.tail _ (List.Mem.tail _ (List.Mem.tail _ (List.Mem.tail _ (List.Mem.tail _ (List.Mem.tail _ (List.Mem.head _)))))))) rfl
theorem k_449 : Cond.instanceMethod yX8_markOn ∈ tb := cm_2_20 (List.Mem.tail _ (List.Mem.tail _ (List.Mem.tail _ (List.Mem.tail _ (List.Mem.tail _ (List.Mem.tail _ (List.Mem.tail _ (List.Mem.tail _ (List.Mem.tail _ (List.Mem.head _)))))))))) rfl
theorem k_450 : Cond.code yX8_markOn cX8_markOn 5 (some .int) ∈ tb := cm_2_21 (List.Mem.head _) rfl
theorem k_451 : Cond.methodLink RX8 305 yX7_addMark ∈ tb := cm_2_21 (List.Mem.tail _ (List.Mem.head _)) rfl
theorem k_452 : Cond.instanceMethod yX7_addMark ∈ tb := cm_2_21 (List.Mem.tail _ (List.Mem.tail _ (List.Mem.head _))) rfl
theorem k_453 : Cond.selects RX7 yX7_addMark yX7_addMark ∈ tb := cm_2_21 (List.Mem.tail _ (List.Mem.tail _ (List.Mem.tail _ (List.Mem.head _)))) rfl
theorem k_454 : Cond.code yX7_addMark cX7_addMark 3 (some .boolean) ∈ tb := cm_2_21 (List.Mem.tail _ (List.Mem.tail _ (List.Mem.tail _ (List.Mem.tail _ (List.Mem.head _))))) rfl
theorem k_455 : Cond.methodLink R_law 57 yX8_late ∈ tb := cm_2_21 (List.Mem.tail _ (List.Mem.tail _ (List.Mem.tail _ (List.Mem.tail _ (List.Mem.tail _ (List.Mem.head _)))))) rfl
theorem k_456 : Cond.instanceMethod yX8_late ∈ tb := cm_2_21 (List.Mem.tail _ (List.Mem.tail _ (List.Mem.tail _ (List.Mem.tail _ (List.Mem.tail _ (List.Mem.tail _ (List.Mem.head _))))))) rfl
theorem k_457 : Cond.selects RX8 yX8_late yX8_late ∈ tb := cm_2_21 (List.Mem.tail _ (List.Mem.tail _ (List.Mem.tail _ (List.Mem.tail _ (List.Mem.tail _ (List.Mem.tail _ (List.Mem.tail _ (List.Mem.head _)))))))) rfl
theorem k_458 : Cond.code yX8_late cX8_late 3 (some .int) ∈ tb := cm_2_21 (List.Mem.tail _ (List.Mem.tail _ (List.Mem.tail _ (List.Mem.tail _ (List.Mem.tail _ (List.Mem.tail _ (List.Mem.tail _ (List.Mem.tail _ (List.Mem.head _))))))))) rfl
theorem k_459 : Cond.methodLink R_law 61 yX8_age ∈ tb := cm_2_21 (List.Mem.tail _ (List.Mem.tail _ (List.Mem.tail _ (List.Mem.tail _ (List.Mem.tail _ (List.Mem.tail _ (List.Mem.tail _ (List.Mem.tail _ (List.Mem.tail _ (List.Mem.head _)))))))))) rfl
theorem k_460 : Cond.instanceMethod yX8_age ∈ tb := cm_2_22 (List.Mem.head _) rfl
theorem k_461 : Cond.selects RX8 yX8_age yX8_age ∈ tb := cm_2_22 (List.Mem.tail _ (List.Mem.head _)) rfl
theorem k_462 : Cond.code yX8_age cX8_age 4 (some .int) ∈ tb := cm_2_22 (List.Mem.tail _ (List.Mem.tail _ (List.Mem.head _))) rfl
theorem k_463 : Cond.methodLink RX8 139 yX7_ageOn ∈ tb := cm_2_22 (List.Mem.tail _ (List.Mem.tail _ (List.Mem.tail _ (List.Mem.head _)))) rfl
theorem k_464 : Cond.instanceMethod yX7_ageOn ∈ tb := cm_2_22 (List.Mem.tail _ (List.Mem.tail _ (List.Mem.tail _ (List.Mem.tail _ (List.Mem.head _))))) rfl
theorem k_465 : Cond.selects RX7 yX7_ageOn yX7_ageOn ∈ tb := cm_2_22 (List.Mem.tail _ (List.Mem.tail _ (List.Mem.tail _ (List.Mem.tail _ (List.Mem.tail _ (List.Mem.head _)))))) rfl
theorem k_466 : Cond.code yX7_ageOn cX7_ageOn 3 (some .int) ∈ tb := cm_2_22 (List.Mem.tail _ (List.Mem.tail _ (List.Mem.tail _ (List.Mem.tail _ (List.Mem.tail _ (List.Mem.tail _ (List.Mem.head _))))))) rfl
theorem k_467 : Cond.methodLink R_law 65 yX8_off ∈ tb := cm_2_22 (List.Mem.tail _ (List.Mem.tail _ (List.Mem.tail _ (List.Mem.tail _ (List.Mem.tail _ (List.Mem.tail _ (List.Mem.tail _ (List.Mem.head _)))))))) rfl
theorem k_468 : Cond.instanceMethod yX8_off ∈ tb := cm_2_22 (List.Mem.tail _ (List.Mem.tail _ (List.Mem.tail _ (List.Mem.tail _ (List.Mem.tail _ (List.Mem.tail _ (List.Mem.tail _ (List.Mem.tail _ (List.Mem.head _))))))))) rfl
theorem k_469 : Cond.selects RX8 yX8_off yX8_off ∈ tb := cm_2_22 (List.Mem.tail _ (List.Mem.tail _ (List.Mem.tail _ (List.Mem.tail _ (List.Mem.tail _ (List.Mem.tail _ (List.Mem.tail _ (List.Mem.tail _ (List.Mem.tail _ (List.Mem.head _)))))))))) rfl
theorem k_470 : Cond.code yX8_off cX8_off 5 (some .int) ∈ tb := cm_2_23 (List.Mem.head _) rfl
theorem k_471 : Cond.methodLink RX8 145 yX2_add ∈ tb := cm_2_23 (List.Mem.tail _ (List.Mem.head _)) rfl
theorem k_472 : Cond.instanceMethod yX2_add ∈ tb := cm_2_23 (List.Mem.tail _ (List.Mem.tail _ (List.Mem.head _))) rfl
theorem k_473 : Cond.selects RX2 yX2_add yX2_add ∈ tb := cm_2_23 (List.Mem.tail _ (List.Mem.tail _ (List.Mem.tail _ (List.Mem.head _)))) rfl
theorem k_474 : Cond.code yX2_add cX2_add 6 none ∈ tb := cm_2_23 (List.Mem.tail _ (List.Mem.tail _ (List.Mem.tail _ (List.Mem.tail _ (List.Mem.head _))))) rfl
theorem k_475 : Cond.methodLink R_law 69 yX8_changed ∈ tb := cm_2_23 (List.Mem.tail _ (List.Mem.tail _ (List.Mem.tail _ (List.Mem.tail _ (List.Mem.tail _ (List.Mem.head _)))))) rfl
theorem k_476 : Cond.instanceMethod yX8_changed ∈ tb := cm_2_23 (List.Mem.tail _ (List.Mem.tail _ (List.Mem.tail _ (List.Mem.tail _ (List.Mem.tail _ (List.Mem.tail _ (List.Mem.head _))))))) rfl
theorem k_477 : Cond.selects RX8 yX8_changed yX8_changed ∈ tb := cm_2_23 (List.Mem.tail _ (List.Mem.tail _ (List.Mem.tail _ (List.Mem.tail _ (List.Mem.tail _ (List.Mem.tail _ (List.Mem.tail _ (List.Mem.head _)))))))) rfl
theorem k_478 : Cond.code yX8_changed cX8_changed 8 (some .int) ∈ tb := cm_2_23 (List.Mem.tail _ (List.Mem.tail _ (List.Mem.tail _ (List.Mem.tail _ (List.Mem.tail _ (List.Mem.tail _ (List.Mem.tail _ (List.Mem.tail _ (List.Mem.head _))))))))) rfl
theorem k_479 : Cond.methodLink RX8 149 yX8_isStretch ∈ tb := cm_2_23 (List.Mem.tail _ (List.Mem.tail _ (List.Mem.tail _ (List.Mem.tail _ (List.Mem.tail _ (List.Mem.tail _ (List.Mem.tail _ (List.Mem.tail _ (List.Mem.tail _ (List.Mem.head _)))))))))) rfl
theorem k_480 : Cond.static yX8_isStretch ∈ tb := cm_3_0 (List.Mem.head _) rfl
theorem k_481 : Cond.code yX8_isStretch cX8_isStretch 2 (some .boolean) ∈ tb := cm_3_0 (List.Mem.tail _ (List.Mem.head _)) rfl
theorem k_482 : Cond.methodLink R_law 73 yX8_law ∈ tb := cm_3_0 (List.Mem.tail _ (List.Mem.tail _ (List.Mem.head _))) rfl
theorem k_483 : Cond.instanceMethod yX8_law ∈ tb := cm_3_0 (List.Mem.tail _ (List.Mem.tail _ (List.Mem.tail _ (List.Mem.head _)))) rfl
theorem k_484 : Cond.selects RX8 yX8_law yX8_law ∈ tb := cm_3_0 (List.Mem.tail _ (List.Mem.tail _ (List.Mem.tail _ (List.Mem.tail _ (List.Mem.head _))))) rfl
theorem k_485 : Cond.code yX8_law cX8_law 5 (some .int) ∈ tb := cm_3_0 (List.Mem.tail _ (List.Mem.tail _ (List.Mem.tail _ (List.Mem.tail _ (List.Mem.tail _ (List.Mem.head _)))))) rfl
theorem k_486 : Cond.methodLink RX8 152 yX8_refusalOfStretch ∈ tb := cm_3_0 (List.Mem.tail _ (List.Mem.tail _ (List.Mem.tail _ (List.Mem.tail _ (List.Mem.tail _ (List.Mem.tail _ (List.Mem.head _))))))) rfl
theorem k_488 : Cond.instanceMethod yX8_refusalOfStretch ∈ tb := cm_3_0 (List.Mem.tail _ (List.Mem.tail _ (List.Mem.tail _ (List.Mem.tail _ (List.Mem.tail _ (List.Mem.tail _ (List.Mem.tail _ (List.Mem.tail _ (List.Mem.head _))))))))) rfl
theorem k_489 : Cond.code yX8_refusalOfStretch cX8_refusalOfStretch 4 (some .int) ∈ tb := cm_3_0 (List.Mem.tail _ (List.Mem.tail _ (List.Mem.tail _ (List.Mem.tail _ (List.Mem.tail _ (List.Mem.tail _ (List.Mem.tail _ (List.Mem.tail _ (List.Mem.tail _ (List.Mem.head _)))))))))) rfl
theorem k_490 : Cond.methodLink RX8 155 yX8_fitLaw ∈ tb := cm_3_1 (List.Mem.head _) rfl
theorem k_492 : Cond.instanceMethod yX8_fitLaw ∈ tb := cm_3_1 (List.Mem.tail _ (List.Mem.tail _ (List.Mem.head _))) rfl
theorem k_493 : Cond.code yX8_fitLaw cX8_fitLaw 8 none ∈ tb := cm_3_1 (List.Mem.tail _ (List.Mem.tail _ (List.Mem.tail _ (List.Mem.head _)))) rfl
theorem k_494 : Cond.methodLink RX8 308 yX1_clear ∈ tb := cm_3_1 (List.Mem.tail _ (List.Mem.tail _ (List.Mem.tail _ (List.Mem.tail _ (List.Mem.head _))))) rfl
theorem k_495 : Cond.instanceMethod yX1_clear ∈ tb := cm_3_1 (List.Mem.tail _ (List.Mem.tail _ (List.Mem.tail _ (List.Mem.tail _ (List.Mem.tail _ (List.Mem.head _)))))) rfl
theorem k_496 : Cond.selects RX1 yX1_clear yX1_clear ∈ tb := cm_3_1 (List.Mem.tail _ (List.Mem.tail _ (List.Mem.tail _ (List.Mem.tail _ (List.Mem.tail _ (List.Mem.tail _ (List.Mem.head _))))))) rfl
theorem k_497 : Cond.code yX1_clear cX1_clear 1 none ∈ tb := cm_3_1 (List.Mem.tail _ (List.Mem.tail _ (List.Mem.tail _ (List.Mem.tail _ (List.Mem.tail _ (List.Mem.tail _ (List.Mem.tail _ (List.Mem.head _)))))))) rfl
theorem k_498 : Cond.methodLink RX8 172 yX3_gather ∈ tb := cm_3_1 (List.Mem.tail _ (List.Mem.tail _ (List.Mem.tail _ (List.Mem.tail _ (List.Mem.tail _ (List.Mem.tail _ (List.Mem.tail _ (List.Mem.tail _ (List.Mem.head _))))))))) rfl
theorem k_499 : Cond.instanceMethod yX3_gather ∈ tb := cm_3_1 (List.Mem.tail _ (List.Mem.tail _ (List.Mem.tail _ (List.Mem.tail _ (List.Mem.tail _ (List.Mem.tail _ (List.Mem.tail _ (List.Mem.tail _ (List.Mem.tail _ (List.Mem.head _)))))))))) rfl
theorem k_500 : Cond.selects RX3 yX3_gather yX3_gather ∈ tb := cm_3_2 (List.Mem.head _) rfl
theorem k_501 : Cond.code yX3_gather cX3_gather 9 none ∈ tb := cm_3_2 (List.Mem.tail _ (List.Mem.head _)) rfl
theorem k_502 : Cond.methodLink RX3 25 yX7_errorAsKnown ∈ tb := cm_3_2 (List.Mem.tail _ (List.Mem.tail _ (List.Mem.head _))) rfl
theorem k_503 : Cond.methodLink RX3 31 yX7_rateBetween ∈ tb := cm_3_2 (List.Mem.tail _ (List.Mem.tail _ (List.Mem.tail _ (List.Mem.head _)))) rfl
theorem k_504 : Cond.constant RX3 35 (-2000000000) ∈ tb := cm_3_2 (List.Mem.tail _ (List.Mem.tail _ (List.Mem.tail _ (List.Mem.tail _ (List.Mem.head _))))) rfl
theorem k_505 : Cond.methodLink RX8 315 yX8_warmthFor ∈ tb := cm_3_2 (List.Mem.tail _ (List.Mem.tail _ (List.Mem.tail _ (List.Mem.tail _ (List.Mem.tail _ (List.Mem.head _)))))) rfl
theorem k_507 : Cond.instanceMethod yX8_warmthFor ∈ tb := cm_3_2 (List.Mem.tail _ (List.Mem.tail _ (List.Mem.tail _ (List.Mem.tail _ (List.Mem.tail _ (List.Mem.tail _ (List.Mem.tail _ (List.Mem.head _)))))))) rfl
theorem k_508 : Cond.code yX8_warmthFor cX8_warmthFor 3 (some .int) ∈ tb := cm_3_2 (List.Mem.tail _ (List.Mem.tail _ (List.Mem.tail _ (List.Mem.tail _ (List.Mem.tail _ (List.Mem.tail _ (List.Mem.tail _ (List.Mem.tail _ (List.Mem.head _))))))))) rfl
theorem k_509 : Cond.methodLink RX8 321 yX1_add ∈ tb := cm_3_2 (List.Mem.tail _ (List.Mem.tail _ (List.Mem.tail _ (List.Mem.tail _ (List.Mem.tail _ (List.Mem.tail _ (List.Mem.tail _ (List.Mem.tail _ (List.Mem.tail _ (List.Mem.head _)))))))))) rfl
theorem k_510 : Cond.instanceMethod yX1_add ∈ tb := cm_3_3 (List.Mem.head _) rfl
theorem k_511 : Cond.selects RX1 yX1_add yX1_add ∈ tb := cm_3_3 (List.Mem.tail _ (List.Mem.head _)) rfl
theorem k_512 : Cond.code yX1_add cX1_add 7 none ∈ tb := cm_3_3 (List.Mem.tail _ (List.Mem.tail _ (List.Mem.head _))) rfl
theorem k_513 : Cond.methodLink RX8 324 yX1_solve ∈ tb := cm_3_3 (List.Mem.tail _ (List.Mem.tail _ (List.Mem.tail _ (List.Mem.head _)))) rfl
theorem k_514 : Cond.instanceMethod yX1_solve ∈ tb := cm_3_3 (List.Mem.tail _ (List.Mem.tail _ (List.Mem.tail _ (List.Mem.tail _ (List.Mem.head _))))) rfl
theorem k_515 : Cond.selects RX1 yX1_solve yX1_solve ∈ tb := cm_3_3 (List.Mem.tail _ (List.Mem.tail _ (List.Mem.tail _ (List.Mem.tail _ (List.Mem.tail _ (List.Mem.head _)))))) rfl
theorem k_516 : Cond.code yX1_solve cX1_solve 13 none ∈ tb := cm_3_3 (List.Mem.tail _ (List.Mem.tail _ (List.Mem.tail _ (List.Mem.tail _ (List.Mem.tail _ (List.Mem.tail _ (List.Mem.head _))))))) rfl
theorem k_517 : Cond.methodLink RX1 46 yX1_setLaw ∈ tb := cm_3_3 (List.Mem.tail _ (List.Mem.tail _ (List.Mem.tail _ (List.Mem.tail _ (List.Mem.tail _ (List.Mem.tail _ (List.Mem.tail _ (List.Mem.head _)))))))) rfl
theorem k_519 : Cond.instanceMethod yX1_setLaw ∈ tb := cm_3_3 (List.Mem.tail _ (List.Mem.tail _ (List.Mem.tail _ (List.Mem.tail _ (List.Mem.tail _ (List.Mem.tail _ (List.Mem.tail _ (List.Mem.tail _ (List.Mem.tail _ (List.Mem.head _)))))))))) rfl
theorem k_520 : Cond.code yX1_setLaw cX1_setLaw 8 none ∈ tb := cm_3_4 (List.Mem.head _) rfl
theorem k_521 : Cond.methodLink RX8 158 yX1_size ∈ tb := cm_3_4 (List.Mem.tail _ (List.Mem.head _)) rfl
theorem k_522 : Cond.instanceMethod yX1_size ∈ tb := cm_3_4 (List.Mem.tail _ (List.Mem.tail _ (List.Mem.head _))) rfl
theorem k_523 : Cond.selects RX1 yX1_size yX1_size ∈ tb := cm_3_4 (List.Mem.tail _ (List.Mem.tail _ (List.Mem.tail _ (List.Mem.head _)))) rfl
theorem k_524 : Cond.code yX1_size cX1_size 1 (some .int) ∈ tb := cm_3_4 (List.Mem.tail _ (List.Mem.tail _ (List.Mem.tail _ (List.Mem.tail _ (List.Mem.head _))))) rfl
theorem k_525 : Cond.methodLink R_law 77 yX8_terms ∈ tb := cm_3_4 (List.Mem.tail _ (List.Mem.tail _ (List.Mem.tail _ (List.Mem.tail _ (List.Mem.tail _ (List.Mem.head _)))))) rfl
theorem k_526 : Cond.instanceMethod yX8_terms ∈ tb := cm_3_4 (List.Mem.tail _ (List.Mem.tail _ (List.Mem.tail _ (List.Mem.tail _ (List.Mem.tail _ (List.Mem.tail _ (List.Mem.head _))))))) rfl
theorem k_527 : Cond.selects RX8 yX8_terms yX8_terms ∈ tb := cm_3_4 (List.Mem.tail _ (List.Mem.tail _ (List.Mem.tail _ (List.Mem.tail _ (List.Mem.tail _ (List.Mem.tail _ (List.Mem.tail _ (List.Mem.head _)))))))) rfl
theorem k_528 : Cond.code yX8_terms cX8_terms 5 (some .int) ∈ tb := cm_3_4 (List.Mem.tail _ (List.Mem.tail _ (List.Mem.tail _ (List.Mem.tail _ (List.Mem.tail _ (List.Mem.tail _ (List.Mem.tail _ (List.Mem.tail _ (List.Mem.head _))))))))) rfl
theorem k_529 : Cond.methodLink RX8 161 yX1_form ∈ tb := cm_3_4 (List.Mem.tail _ (List.Mem.tail _ (List.Mem.tail _ (List.Mem.tail _ (List.Mem.tail _ (List.Mem.tail _ (List.Mem.tail _ (List.Mem.tail _ (List.Mem.tail _ (List.Mem.head _)))))))))) rfl
theorem k_530 : Cond.instanceMethod yX1_form ∈ tb := cm_3_5 (List.Mem.head _) rfl
theorem k_531 : Cond.selects RX1 yX1_form yX1_form ∈ tb := cm_3_5 (List.Mem.tail _ (List.Mem.head _)) rfl
theorem k_532 : Cond.code yX1_form cX1_form 1 (some .int) ∈ tb := cm_3_5 (List.Mem.tail _ (List.Mem.tail _ (List.Mem.head _))) rfl
theorem k_533 : Cond.methodLink R_law 81 yX8_foretold ∈ tb := cm_3_5 (List.Mem.tail _ (List.Mem.tail _ (List.Mem.tail _ (List.Mem.head _)))) rfl
theorem k_534 : Cond.instanceMethod yX8_foretold ∈ tb := cm_3_5 (List.Mem.tail _ (List.Mem.tail _ (List.Mem.tail _ (List.Mem.tail _ (List.Mem.head _))))) rfl
theorem k_535 : Cond.selects RX8 yX8_foretold yX8_foretold ∈ tb := cm_3_5 (List.Mem.tail _ (List.Mem.tail _ (List.Mem.tail _ (List.Mem.tail _ (List.Mem.tail _ (List.Mem.head _)))))) rfl
theorem k_536 : Cond.code yX8_foretold cX8_foretold 8 (some .int) ∈ tb := cm_3_5 (List.Mem.tail _ (List.Mem.tail _ (List.Mem.tail _ (List.Mem.tail _ (List.Mem.tail _ (List.Mem.tail _ (List.Mem.head _))))))) rfl
theorem k_537 : Cond.methodLink RX8 164 yX1_thousandfold ∈ tb := cm_3_5 (List.Mem.tail _ (List.Mem.tail _ (List.Mem.tail _ (List.Mem.tail _ (List.Mem.tail _ (List.Mem.tail _ (List.Mem.tail _ (List.Mem.head _)))))))) rfl
theorem k_538 : Cond.instanceMethod yX1_thousandfold ∈ tb := cm_3_5 (List.Mem.tail _ (List.Mem.tail _ (List.Mem.tail _ (List.Mem.tail _ (List.Mem.tail _ (List.Mem.tail _ (List.Mem.tail _ (List.Mem.tail _ (List.Mem.head _))))))))) rfl
theorem k_539 : Cond.selects RX1 yX1_thousandfold yX1_thousandfold ∈ tb := cm_3_5 (List.Mem.tail _ (List.Mem.tail _ (List.Mem.tail _ (List.Mem.tail _ (List.Mem.tail _ (List.Mem.tail _ (List.Mem.tail _ (List.Mem.tail _ (List.Mem.tail _ (List.Mem.head _)))))))))) rfl
theorem k_540 : Cond.code yX1_thousandfold cX1_thousandfold 3 (some .long) ∈ tb := cm_3_6 (List.Mem.head _) rfl
theorem k_541 : Cond.constantLong RX1 62 1000 ∈ tb := cm_3_6 (List.Mem.tail _ (List.Mem.head _)) rfl
theorem k_542 : Cond.methodLink RX1 64 yX1_addProduct ∈ tb := cm_3_6 (List.Mem.tail _ (List.Mem.tail _ (List.Mem.head _))) rfl
theorem k_544 : Cond.instanceMethod yX1_addProduct ∈ tb := cm_3_6 (List.Mem.tail _ (List.Mem.tail _ (List.Mem.tail _ (List.Mem.tail _ (List.Mem.head _))))) rfl
theorem k_545 : Cond.code yX1_addProduct cX1_addProduct 18 none ∈ tb := cm_3_6 (List.Mem.tail _ (List.Mem.tail _ (List.Mem.tail _ (List.Mem.tail _ (List.Mem.tail _ (List.Mem.head _)))))) rfl
theorem k_555 : Cond.constantLong RX1 81 2 ∈ tb := cm_3_7 (List.Mem.tail _ (List.Mem.tail _ (List.Mem.tail _ (List.Mem.tail _ (List.Mem.tail _ (List.Mem.head _)))))) rfl
theorem k_556 : Cond.constantLong RX8 168 2000000000 ∈ tb := cm_3_7 (List.Mem.tail _ (List.Mem.tail _ (List.Mem.tail _ (List.Mem.tail _ (List.Mem.tail _ (List.Mem.tail _ (List.Mem.head _))))))) rfl
theorem k_557 : Cond.constantLong RX8 170 (-2000000000) ∈ tb := cm_3_7 (List.Mem.tail _ (List.Mem.tail _ (List.Mem.tail _ (List.Mem.tail _ (List.Mem.tail _ (List.Mem.tail _ (List.Mem.tail _ (List.Mem.head _)))))))) rfl
theorem k_558 : Cond.methodLink R_law 86 yX8_jump ∈ tb := cm_3_7 (List.Mem.tail _ (List.Mem.tail _ (List.Mem.tail _ (List.Mem.tail _ (List.Mem.tail _ (List.Mem.tail _ (List.Mem.tail _ (List.Mem.tail _ (List.Mem.head _))))))))) rfl
theorem k_559 : Cond.instanceMethod yX8_jump ∈ tb := cm_3_7 (List.Mem.tail _ (List.Mem.tail _ (List.Mem.tail _ (List.Mem.tail _ (List.Mem.tail _ (List.Mem.tail _ (List.Mem.tail _ (List.Mem.tail _ (List.Mem.tail _ (List.Mem.head _)))))))))) rfl
theorem k_560 : Cond.selects RX8 yX8_jump yX8_jump ∈ tb := cm_3_8 (List.Mem.head _) rfl
theorem k_561 : Cond.code yX8_jump cX8_jump 6 (some .int) ∈ tb := cm_3_8 (List.Mem.tail _ (List.Mem.head _)) rfl
theorem k_562 : Cond.methodLink RX8 176 yX3_dayFarthestOff ∈ tb := cm_3_8 (List.Mem.tail _ (List.Mem.tail _ (List.Mem.head _))) rfl
theorem k_563 : Cond.instanceMethod yX3_dayFarthestOff ∈ tb := cm_3_8 (List.Mem.tail _ (List.Mem.tail _ (List.Mem.tail _ (List.Mem.head _)))) rfl
theorem k_564 : Cond.selects RX3 yX3_dayFarthestOff yX3_dayFarthestOff ∈ tb := cm_3_8 (List.Mem.tail _ (List.Mem.tail _ (List.Mem.tail _ (List.Mem.tail _ (List.Mem.head _))))) rfl
theorem k_565 : Cond.code yX3_dayFarthestOff cX3_dayFarthestOff 7 (some .int) ∈ tb := cm_3_8 (List.Mem.tail _ (List.Mem.tail _ (List.Mem.tail _ (List.Mem.tail _ (List.Mem.tail _ (List.Mem.head _)))))) rfl
theorem k_566 : Cond.methodLink RX3 49 yX3_middleOne ∈ tb := cm_3_8 (List.Mem.tail _ (List.Mem.tail _ (List.Mem.tail _ (List.Mem.tail _ (List.Mem.tail _ (List.Mem.tail _ (List.Mem.head _))))))) rfl
theorem k_568 : Cond.instanceMethod yX3_middleOne ∈ tb := cm_3_8 (List.Mem.tail _ (List.Mem.tail _ (List.Mem.tail _ (List.Mem.tail _ (List.Mem.tail _ (List.Mem.tail _ (List.Mem.tail _ (List.Mem.tail _ (List.Mem.head _))))))))) rfl
theorem k_569 : Cond.code yX3_middleOne cX3_middleOne 3 (some .int) ∈ tb := cm_3_8 (List.Mem.tail _ (List.Mem.tail _ (List.Mem.tail _ (List.Mem.tail _ (List.Mem.tail _ (List.Mem.tail _ (List.Mem.tail _ (List.Mem.tail _ (List.Mem.tail _ (List.Mem.head _)))))))))) rfl
theorem k_573 : Cond.methodLink R_law 90 yX8_feed ∈ tb := cm_3_9 (List.Mem.tail _ (List.Mem.tail _ (List.Mem.tail _ (List.Mem.head _)))) rfl
theorem k_574 : Cond.instanceMethod yX8_feed ∈ tb := cm_3_9 (List.Mem.tail _ (List.Mem.tail _ (List.Mem.tail _ (List.Mem.tail _ (List.Mem.head _))))) rfl
theorem k_575 : Cond.selects RX8 yX8_feed yX8_feed ∈ tb := cm_3_9 (List.Mem.tail _ (List.Mem.tail _ (List.Mem.tail _ (List.Mem.tail _ (List.Mem.tail _ (List.Mem.head _)))))) rfl
theorem k_576 : Cond.code yX8_feed cX8_feed 4 (some .int) ∈ tb := cm_3_9 (List.Mem.tail _ (List.Mem.tail _ (List.Mem.tail _ (List.Mem.tail _ (List.Mem.tail _ (List.Mem.tail _ (List.Mem.head _))))))) rfl
theorem k_577 : Cond.methodLink RX8 180 yX6_add ∈ tb := cm_3_9 (List.Mem.tail _ (List.Mem.tail _ (List.Mem.tail _ (List.Mem.tail _ (List.Mem.tail _ (List.Mem.tail _ (List.Mem.tail _ (List.Mem.head _)))))))) rfl
theorem k_578 : Cond.instanceMethod yX6_add ∈ tb := cm_3_9 (List.Mem.tail _ (List.Mem.tail _ (List.Mem.tail _ (List.Mem.tail _ (List.Mem.tail _ (List.Mem.tail _ (List.Mem.tail _ (List.Mem.tail _ (List.Mem.head _))))))))) rfl
theorem k_579 : Cond.selects RX6 yX6_add yX6_add ∈ tb := cm_3_9 (List.Mem.tail _ (List.Mem.tail _ (List.Mem.tail _ (List.Mem.tail _ (List.Mem.tail _ (List.Mem.tail _ (List.Mem.tail _ (List.Mem.tail _ (List.Mem.tail _ (List.Mem.head _)))))))))) rfl
theorem k_580 : Cond.code yX6_add cX6_add 2 none ∈ tb := cm_3_10 (List.Mem.head _) rfl
theorem k_581 : Cond.methodLink R_law 94 yX8_rule ∈ tb := cm_3_10 (List.Mem.tail _ (List.Mem.head _)) rfl
theorem k_582 : Cond.instanceMethod yX8_rule ∈ tb := cm_3_10 (List.Mem.tail _ (List.Mem.tail _ (List.Mem.head _))) rfl
theorem k_583 : Cond.selects RX8 yX8_rule yX8_rule ∈ tb := cm_3_10 (List.Mem.tail _ (List.Mem.tail _ (List.Mem.tail _ (List.Mem.head _)))) rfl
theorem k_584 : Cond.code yX8_rule cX8_rule 3 (some .int) ∈ tb := cm_3_10 (List.Mem.tail _ (List.Mem.tail _ (List.Mem.tail _ (List.Mem.tail _ (List.Mem.head _))))) rfl
theorem k_587 : Cond.methodLink RX8 186 yX6_readAsRule ∈ tb := cm_3_10 (List.Mem.tail _ (List.Mem.tail _ (List.Mem.tail _ (List.Mem.tail _ (List.Mem.tail _ (List.Mem.tail _ (List.Mem.tail _ (List.Mem.head _)))))))) rfl
theorem k_588 : Cond.instanceMethod yX6_readAsRule ∈ tb := cm_3_10 (List.Mem.tail _ (List.Mem.tail _ (List.Mem.tail _ (List.Mem.tail _ (List.Mem.tail _ (List.Mem.tail _ (List.Mem.tail _ (List.Mem.tail _ (List.Mem.head _))))))))) rfl
theorem k_589 : Cond.selects RX6 yX6_readAsRule yX6_readAsRule ∈ tb := cm_3_10 (List.Mem.tail _ (List.Mem.tail _ (List.Mem.tail _ (List.Mem.tail _ (List.Mem.tail _ (List.Mem.tail _ (List.Mem.tail _ (List.Mem.tail _ (List.Mem.tail _ (List.Mem.head _)))))))))) rfl
theorem k_590 : Cond.code yX6_readAsRule cX6_readAsRule 3 (some .int) ∈ tb := cm_3_11 (List.Mem.head _) rfl
theorem k_591 : Cond.methodLink RX6 45 yX6_goOn ∈ tb := cm_3_11 (List.Mem.tail _ (List.Mem.head _)) rfl
theorem k_593 : Cond.instanceMethod yX6_goOn ∈ tb := cm_3_11 (List.Mem.tail _ (List.Mem.tail _ (List.Mem.tail _ (List.Mem.head _)))) rfl
theorem k_594 : Cond.code yX6_goOn cX6_goOn 1 none ∈ tb := cm_3_11 (List.Mem.tail _ (List.Mem.tail _ (List.Mem.tail _ (List.Mem.tail _ (List.Mem.head _))))) rfl
theorem k_595 : Cond.methodLink RX6 77 yX6_isLetter ∈ tb := cm_3_11 (List.Mem.tail _ (List.Mem.tail _ (List.Mem.tail _ (List.Mem.tail _ (List.Mem.tail _ (List.Mem.head _)))))) rfl
theorem k_596 : Cond.static yX6_isLetter ∈ tb := cm_3_11 (List.Mem.tail _ (List.Mem.tail _ (List.Mem.tail _ (List.Mem.tail _ (List.Mem.tail _ (List.Mem.tail _ (List.Mem.head _))))))) rfl
theorem k_597 : Cond.code yX6_isLetter cX6_isLetter 1 (some .boolean) ∈ tb := cm_3_11 (List.Mem.tail _ (List.Mem.tail _ (List.Mem.tail _ (List.Mem.tail _ (List.Mem.tail _ (List.Mem.tail _ (List.Mem.tail _ (List.Mem.head _)))))))) rfl
theorem k_598 : Cond.methodLink RX6 80 yX6_takeLetters ∈ tb := cm_3_11 (List.Mem.tail _ (List.Mem.tail _ (List.Mem.tail _ (List.Mem.tail _ (List.Mem.tail _ (List.Mem.tail _ (List.Mem.tail _ (List.Mem.tail _ (List.Mem.head _))))))))) rfl
theorem k_600 : Cond.instanceMethod yX6_takeLetters ∈ tb := cm_3_12 (List.Mem.head _) rfl
theorem k_601 : Cond.code yX6_takeLetters cX6_takeLetters 2 none ∈ tb := cm_3_12 (List.Mem.tail _ (List.Mem.head _)) rfl
theorem k_602 : Cond.methodLink RX6 92 yX6_placeAmongWords ∈ tb := cm_3_12 (List.Mem.tail _ (List.Mem.tail _ (List.Mem.head _))) rfl
theorem k_604 : Cond.instanceMethod yX6_placeAmongWords ∈ tb := cm_3_12 (List.Mem.tail _ (List.Mem.tail _ (List.Mem.tail _ (List.Mem.tail _ (List.Mem.head _))))) rfl
theorem k_605 : Cond.code yX6_placeAmongWords cX6_placeAmongWords 4 (some .int) ∈ tb := cm_3_12 (List.Mem.tail _ (List.Mem.tail _ (List.Mem.tail _ (List.Mem.tail _ (List.Mem.tail _ (List.Mem.head _)))))) rfl
theorem k_614 : Cond.fieldLink "java/lang/String" 38 "java/lang/String" "COMPACT_STRINGS" "Z" ∈ tb := cm_3_13 (List.Mem.tail _ (List.Mem.tail _ (List.Mem.tail _ (List.Mem.tail _ (List.Mem.head _))))) rfl
theorem k_630 : Cond.fieldLink "java/lang/String" 1053 "jdk/internal/util/Preconditions" "SIOOBE_FORMATTER" "Ljava/util/function/BiFunction;" ∈ tb := cm_3_15 (List.Mem.head _) rfl
theorem k_648 : Cond.fieldLink "java/lang/StringUTF16" 44 "java/lang/StringUTF16" "$assertionsDisabled" "Z" ∈ tb := cm_3_16 (List.Mem.tail _ (List.Mem.tail _ (List.Mem.tail _ (List.Mem.tail _ (List.Mem.tail _ (List.Mem.tail _ (List.Mem.tail _ (List.Mem.tail _ (List.Mem.head _))))))))) rfl
theorem k_650 : Cond.fieldLink "java/lang/StringUTF16" 59 "java/lang/StringUTF16" "HI_BYTE_SHIFT" "I" ∈ tb := cm_3_17 (List.Mem.head _) rfl
theorem k_652 : Cond.fieldLink "java/lang/StringUTF16" 63 "java/lang/StringUTF16" "LO_BYTE_SHIFT" "I" ∈ tb := cm_3_17 (List.Mem.tail _ (List.Mem.tail _ (List.Mem.head _))) rfl
theorem k_654 : Cond.methodLink RX6 105 yX6_isOnTape ∈ tb := cm_3_17 (List.Mem.tail _ (List.Mem.tail _ (List.Mem.tail _ (List.Mem.tail _ (List.Mem.head _))))) rfl
theorem k_656 : Cond.instanceMethod yX6_isOnTape ∈ tb := cm_3_17 (List.Mem.tail _ (List.Mem.tail _ (List.Mem.tail _ (List.Mem.tail _ (List.Mem.tail _ (List.Mem.tail _ (List.Mem.head _))))))) rfl
theorem k_657 : Cond.code yX6_isOnTape cX6_isOnTape 4 (some .boolean) ∈ tb := cm_3_17 (List.Mem.tail _ (List.Mem.tail _ (List.Mem.tail _ (List.Mem.tail _ (List.Mem.tail _ (List.Mem.tail _ (List.Mem.tail _ (List.Mem.head _)))))))) rfl
theorem k_658 : Cond.methodLink RX6 83 yX6_isDigit ∈ tb := cm_3_17 (List.Mem.tail _ (List.Mem.tail _ (List.Mem.tail _ (List.Mem.tail _ (List.Mem.tail _ (List.Mem.tail _ (List.Mem.tail _ (List.Mem.tail _ (List.Mem.head _))))))))) rfl
theorem k_659 : Cond.static yX6_isDigit ∈ tb := cm_3_17 (List.Mem.tail _ (List.Mem.tail _ (List.Mem.tail _ (List.Mem.tail _ (List.Mem.tail _ (List.Mem.tail _ (List.Mem.tail _ (List.Mem.tail _ (List.Mem.tail _ (List.Mem.head _)))))))))) rfl
theorem k_660 : Cond.code yX6_isDigit cX6_isDigit 1 (some .boolean) ∈ tb := cm_3_18 (List.Mem.head _) rfl
theorem k_661 : Cond.methodLink RX6 86 yX6_takeDigits ∈ tb := cm_3_18 (List.Mem.tail _ (List.Mem.head _)) rfl
theorem k_663 : Cond.instanceMethod yX6_takeDigits ∈ tb := cm_3_18 (List.Mem.tail _ (List.Mem.tail _ (List.Mem.tail _ (List.Mem.head _)))) rfl
theorem k_664 : Cond.code yX6_takeDigits cX6_takeDigits 1 none ∈ tb := cm_3_18 (List.Mem.tail _ (List.Mem.tail _ (List.Mem.tail _ (List.Mem.tail _ (List.Mem.head _))))) rfl
theorem k_665 : Cond.methodLink RX6 89 yX6_isSign ∈ tb := cm_3_18 (List.Mem.tail _ (List.Mem.tail _ (List.Mem.tail _ (List.Mem.tail _ (List.Mem.tail _ (List.Mem.head _)))))) rfl
theorem k_666 : Cond.static yX6_isSign ∈ tb := cm_3_18 (List.Mem.tail _ (List.Mem.tail _ (List.Mem.tail _ (List.Mem.tail _ (List.Mem.tail _ (List.Mem.tail _ (List.Mem.head _))))))) rfl
theorem k_667 : Cond.code yX6_isSign cX6_isSign 1 (some .boolean) ∈ tb := cm_3_18 (List.Mem.tail _ (List.Mem.tail _ (List.Mem.tail _ (List.Mem.tail _ (List.Mem.tail _ (List.Mem.tail _ (List.Mem.tail _ (List.Mem.head _)))))))) rfl
theorem k_668 : Cond.methodLink RX6 48 yX6_readEither ∈ tb := cm_3_18 (List.Mem.tail _ (List.Mem.tail _ (List.Mem.tail _ (List.Mem.tail _ (List.Mem.tail _ (List.Mem.tail _ (List.Mem.tail _ (List.Mem.tail _ (List.Mem.head _))))))))) rfl
theorem k_670 : Cond.instanceMethod yX6_readEither ∈ tb := cm_3_19 (List.Mem.head _) rfl
theorem k_671 : Cond.code yX6_readEither cX6_readEither 4 (some .boolean) ∈ tb := cm_3_19 (List.Mem.tail _ (List.Mem.head _)) rfl
theorem k_672 : Cond.methodLink RX6 52 yX6_readBoth ∈ tb := cm_3_19 (List.Mem.tail _ (List.Mem.tail _ (List.Mem.head _))) rfl
theorem k_674 : Cond.instanceMethod yX6_readBoth ∈ tb := cm_3_19 (List.Mem.tail _ (List.Mem.tail _ (List.Mem.tail _ (List.Mem.tail _ (List.Mem.head _))))) rfl
theorem k_675 : Cond.code yX6_readBoth cX6_readBoth 4 (some .boolean) ∈ tb := cm_3_19 (List.Mem.tail _ (List.Mem.tail _ (List.Mem.tail _ (List.Mem.tail _ (List.Mem.tail _ (List.Mem.head _)))))) rfl
theorem k_676 : Cond.methodLink RX6 59 yX6_readNegation ∈ tb := cm_3_19 (List.Mem.tail _ (List.Mem.tail _ (List.Mem.tail _ (List.Mem.tail _ (List.Mem.tail _ (List.Mem.tail _ (List.Mem.head _))))))) rfl
theorem k_678 : Cond.instanceMethod yX6_readNegation ∈ tb := cm_3_19 (List.Mem.tail _ (List.Mem.tail _ (List.Mem.tail _ (List.Mem.tail _ (List.Mem.tail _ (List.Mem.tail _ (List.Mem.tail _ (List.Mem.tail _ (List.Mem.head _))))))))) rfl
theorem k_679 : Cond.code yX6_readNegation cX6_readNegation 3 (some .boolean) ∈ tb := cm_3_19 (List.Mem.tail _ (List.Mem.tail _ (List.Mem.tail _ (List.Mem.tail _ (List.Mem.tail _ (List.Mem.tail _ (List.Mem.tail _ (List.Mem.tail _ (List.Mem.tail _ (List.Mem.head _)))))))))) rfl
theorem k_680 : Cond.methodLink RX6 62 yX6_readComparison ∈ tb := cm_3_20 (List.Mem.head _) rfl
theorem k_682 : Cond.instanceMethod yX6_readComparison ∈ tb := cm_3_20 (List.Mem.tail _ (List.Mem.tail _ (List.Mem.head _))) rfl
theorem k_683 : Cond.code yX6_readComparison cX6_readComparison 4 (some .boolean) ∈ tb := cm_3_20 (List.Mem.tail _ (List.Mem.tail _ (List.Mem.tail _ (List.Mem.head _)))) rfl
theorem k_684 : Cond.methodLink RX6 65 yX6_readSum ∈ tb := cm_3_20 (List.Mem.tail _ (List.Mem.tail _ (List.Mem.tail _ (List.Mem.tail _ (List.Mem.head _))))) rfl
theorem k_686 : Cond.instanceMethod yX6_readSum ∈ tb := cm_3_20 (List.Mem.tail _ (List.Mem.tail _ (List.Mem.tail _ (List.Mem.tail _ (List.Mem.tail _ (List.Mem.tail _ (List.Mem.head _))))))) rfl
theorem k_687 : Cond.code yX6_readSum cX6_readSum 5 (some .boolean) ∈ tb := cm_3_20 (List.Mem.tail _ (List.Mem.tail _ (List.Mem.tail _ (List.Mem.tail _ (List.Mem.tail _ (List.Mem.tail _ (List.Mem.tail _ (List.Mem.head _)))))))) rfl
theorem k_688 : Cond.methodLink RX6 68 yX6_readProduct ∈ tb := cm_3_20 (List.Mem.tail _ (List.Mem.tail _ (List.Mem.tail _ (List.Mem.tail _ (List.Mem.tail _ (List.Mem.tail _ (List.Mem.tail _ (List.Mem.tail _ (List.Mem.head _))))))))) rfl
theorem k_690 : Cond.instanceMethod yX6_readProduct ∈ tb := cm_3_21 (List.Mem.head _) rfl
theorem k_691 : Cond.code yX6_readProduct cX6_readProduct 5 (some .boolean) ∈ tb := cm_3_21 (List.Mem.tail _ (List.Mem.head _)) rfl
theorem k_692 : Cond.methodLink RX6 71 yX6_readOperand ∈ tb := cm_3_21 (List.Mem.tail _ (List.Mem.tail _ (List.Mem.head _))) rfl
theorem k_694 : Cond.instanceMethod yX6_readOperand ∈ tb := cm_3_21 (List.Mem.tail _ (List.Mem.tail _ (List.Mem.tail _ (List.Mem.tail _ (List.Mem.head _))))) rfl
theorem k_695 : Cond.code yX6_readOperand cX6_readOperand 4 (some .boolean) ∈ tb := cm_3_21 (List.Mem.tail _ (List.Mem.tail _ (List.Mem.tail _ (List.Mem.tail _ (List.Mem.tail _ (List.Mem.head _)))))) rfl
theorem k_696 : Cond.methodLink RX6 55 yX4_add ∈ tb := cm_3_21 (List.Mem.tail _ (List.Mem.tail _ (List.Mem.tail _ (List.Mem.tail _ (List.Mem.tail _ (List.Mem.tail _ (List.Mem.head _))))))) rfl
theorem k_697 : Cond.instanceMethod yX4_add ∈ tb := cm_3_21 (List.Mem.tail _ (List.Mem.tail _ (List.Mem.tail _ (List.Mem.tail _ (List.Mem.tail _ (List.Mem.tail _ (List.Mem.tail _ (List.Mem.head _)))))))) rfl
theorem k_698 : Cond.selects RX4 yX4_add yX4_add ∈ tb := cm_3_21 (List.Mem.tail _ (List.Mem.tail _ (List.Mem.tail _ (List.Mem.tail _ (List.Mem.tail _ (List.Mem.tail _ (List.Mem.tail _ (List.Mem.tail _ (List.Mem.head _))))))))) rfl
theorem k_699 : Cond.code yX4_add cX4_add 3 none ∈ tb := cm_3_21 (List.Mem.tail _ (List.Mem.tail _ (List.Mem.tail _ (List.Mem.tail _ (List.Mem.tail _ (List.Mem.tail _ (List.Mem.tail _ (List.Mem.tail _ (List.Mem.tail _ (List.Mem.head _)))))))))) rfl
theorem k_700 : Cond.methodLink RX6 74 yX6_readInBrackets ∈ tb := cm_3_22 (List.Mem.head _) rfl
theorem k_702 : Cond.instanceMethod yX6_readInBrackets ∈ tb := cm_3_22 (List.Mem.tail _ (List.Mem.tail _ (List.Mem.head _))) rfl
theorem k_703 : Cond.code yX6_readInBrackets cX6_readInBrackets 2 (some .boolean) ∈ tb := cm_3_22 (List.Mem.tail _ (List.Mem.tail _ (List.Mem.tail _ (List.Mem.head _)))) rfl
theorem k_704 : Cond.methodLink RX8 190 yX6_exchangeRule ∈ tb := cm_3_22 (List.Mem.tail _ (List.Mem.tail _ (List.Mem.tail _ (List.Mem.tail _ (List.Mem.head _))))) rfl
theorem k_705 : Cond.instanceMethod yX6_exchangeRule ∈ tb := cm_3_22 (List.Mem.tail _ (List.Mem.tail _ (List.Mem.tail _ (List.Mem.tail _ (List.Mem.tail _ (List.Mem.head _)))))) rfl
theorem k_706 : Cond.selects RX6 yX6_exchangeRule yX6_exchangeRule ∈ tb := cm_3_22 (List.Mem.tail _ (List.Mem.tail _ (List.Mem.tail _ (List.Mem.tail _ (List.Mem.tail _ (List.Mem.tail _ (List.Mem.head _))))))) rfl
theorem k_707 : Cond.code yX6_exchangeRule cX6_exchangeRule 3 (some (.object "SeaWatches$Rule")) ∈ tb := cm_3_22 (List.Mem.tail _ (List.Mem.tail _ (List.Mem.tail _ (List.Mem.tail _ (List.Mem.tail _ (List.Mem.tail _ (List.Mem.tail _ (List.Mem.head _)))))))) rfl
theorem k_708 : Cond.methodLink R_law 98 yX8_trial ∈ tb := cm_3_22 (List.Mem.tail _ (List.Mem.tail _ (List.Mem.tail _ (List.Mem.tail _ (List.Mem.tail _ (List.Mem.tail _ (List.Mem.tail _ (List.Mem.tail _ (List.Mem.head _))))))))) rfl
theorem k_709 : Cond.instanceMethod yX8_trial ∈ tb := cm_3_22 (List.Mem.tail _ (List.Mem.tail _ (List.Mem.tail _ (List.Mem.tail _ (List.Mem.tail _ (List.Mem.tail _ (List.Mem.tail _ (List.Mem.tail _ (List.Mem.tail _ (List.Mem.head _)))))))))) rfl
theorem k_710 : Cond.selects RX8 yX8_trial yX8_trial ∈ tb := cm_3_23 (List.Mem.head _) rfl
theorem k_711 : Cond.code yX8_trial cX8_trial 4 (some .int) ∈ tb := cm_3_23 (List.Mem.tail _ (List.Mem.head _)) rfl
theorem k_712 : Cond.methodLink RX8 194 yX8_hasTrial ∈ tb := cm_3_23 (List.Mem.tail _ (List.Mem.tail _ (List.Mem.head _))) rfl
theorem k_714 : Cond.instanceMethod yX8_hasTrial ∈ tb := cm_3_23 (List.Mem.tail _ (List.Mem.tail _ (List.Mem.tail _ (List.Mem.tail _ (List.Mem.head _))))) rfl
theorem k_715 : Cond.code yX8_hasTrial cX8_hasTrial 5 (some .boolean) ∈ tb := cm_3_23 (List.Mem.tail _ (List.Mem.tail _ (List.Mem.tail _ (List.Mem.tail _ (List.Mem.tail _ (List.Mem.head _)))))) rfl
theorem k_716 : Cond.methodLink RX8 198 yX8_workOutTrial ∈ tb := cm_3_23 (List.Mem.tail _ (List.Mem.tail _ (List.Mem.tail _ (List.Mem.tail _ (List.Mem.tail _ (List.Mem.tail _ (List.Mem.head _))))))) rfl
theorem k_718 : Cond.instanceMethod yX8_workOutTrial ∈ tb := cm_3_23 (List.Mem.tail _ (List.Mem.tail _ (List.Mem.tail _ (List.Mem.tail _ (List.Mem.tail _ (List.Mem.tail _ (List.Mem.tail _ (List.Mem.tail _ (List.Mem.head _))))))))) rfl
theorem k_719 : Cond.code yX8_workOutTrial cX8_workOutTrial 5 (some .int) ∈ tb := cm_3_23 (List.Mem.tail _ (List.Mem.tail _ (List.Mem.tail _ (List.Mem.tail _ (List.Mem.tail _ (List.Mem.tail _ (List.Mem.tail _ (List.Mem.tail _ (List.Mem.tail _ (List.Mem.head _)))))))))) rfl
theorem k_720 : Cond.methodLink RX8 328 yX3_least ∈ tb := cm_4_0 (List.Mem.head _) rfl
theorem k_721 : Cond.instanceMethod yX3_least ∈ tb := cm_4_0 (List.Mem.tail _ (List.Mem.head _)) rfl
theorem k_722 : Cond.selects RX3 yX3_least yX3_least ∈ tb := cm_4_0 (List.Mem.tail _ (List.Mem.tail _ (List.Mem.head _))) rfl
theorem k_723 : Cond.code yX3_least cX3_least 3 (some .int) ∈ tb := cm_4_0 (List.Mem.tail _ (List.Mem.tail _ (List.Mem.tail _ (List.Mem.head _)))) rfl
theorem k_727 : Cond.methodLink RX8 331 yX3_most ∈ tb := cm_4_0 (List.Mem.tail _ (List.Mem.tail _ (List.Mem.tail _ (List.Mem.tail _ (List.Mem.tail _ (List.Mem.tail _ (List.Mem.tail _ (List.Mem.head _)))))))) rfl
theorem k_728 : Cond.instanceMethod yX3_most ∈ tb := cm_4_0 (List.Mem.tail _ (List.Mem.tail _ (List.Mem.tail _ (List.Mem.tail _ (List.Mem.tail _ (List.Mem.tail _ (List.Mem.tail _ (List.Mem.tail _ (List.Mem.head _))))))))) rfl
theorem k_729 : Cond.selects RX3 yX3_most yX3_most ∈ tb := cm_4_0 (List.Mem.tail _ (List.Mem.tail _ (List.Mem.tail _ (List.Mem.tail _ (List.Mem.tail _ (List.Mem.tail _ (List.Mem.tail _ (List.Mem.tail _ (List.Mem.tail _ (List.Mem.head _)))))))))) rfl
theorem k_730 : Cond.code yX3_most cX3_most 3 (some .int) ∈ tb := cm_4_1 (List.Mem.head _) rfl
theorem k_734 : Cond.methodLink RX8 334 yX3_greatestStep ∈ tb := cm_4_1 (List.Mem.tail _ (List.Mem.tail _ (List.Mem.tail _ (List.Mem.tail _ (List.Mem.head _))))) rfl
theorem k_735 : Cond.instanceMethod yX3_greatestStep ∈ tb := cm_4_1 (List.Mem.tail _ (List.Mem.tail _ (List.Mem.tail _ (List.Mem.tail _ (List.Mem.tail _ (List.Mem.head _)))))) rfl
theorem k_736 : Cond.selects RX3 yX3_greatestStep yX3_greatestStep ∈ tb := cm_4_1 (List.Mem.tail _ (List.Mem.tail _ (List.Mem.tail _ (List.Mem.tail _ (List.Mem.tail _ (List.Mem.tail _ (List.Mem.head _))))))) rfl
theorem k_737 : Cond.code yX3_greatestStep cX3_greatestStep 3 (some .int) ∈ tb := cm_4_1 (List.Mem.tail _ (List.Mem.tail _ (List.Mem.tail _ (List.Mem.tail _ (List.Mem.tail _ (List.Mem.tail _ (List.Mem.tail _ (List.Mem.head _)))))))) rfl
theorem k_738 : Cond.methodLink RX8 337 yX3_drift ∈ tb := cm_4_1 (List.Mem.tail _ (List.Mem.tail _ (List.Mem.tail _ (List.Mem.tail _ (List.Mem.tail _ (List.Mem.tail _ (List.Mem.tail _ (List.Mem.tail _ (List.Mem.head _))))))))) rfl
theorem k_739 : Cond.instanceMethod yX3_drift ∈ tb := cm_4_1 (List.Mem.tail _ (List.Mem.tail _ (List.Mem.tail _ (List.Mem.tail _ (List.Mem.tail _ (List.Mem.tail _ (List.Mem.tail _ (List.Mem.tail _ (List.Mem.tail _ (List.Mem.head _)))))))))) rfl
theorem k_740 : Cond.selects RX3 yX3_drift yX3_drift ∈ tb := cm_4_2 (List.Mem.head _) rfl
theorem k_741 : Cond.code yX3_drift cX3_drift 1 (some .int) ∈ tb := cm_4_2 (List.Mem.tail _ (List.Mem.head _)) rfl
theorem k_742 : Cond.methodLink RX8 340 yX3_sum ∈ tb := cm_4_2 (List.Mem.tail _ (List.Mem.tail _ (List.Mem.head _))) rfl
theorem k_743 : Cond.instanceMethod yX3_sum ∈ tb := cm_4_2 (List.Mem.tail _ (List.Mem.tail _ (List.Mem.tail _ (List.Mem.head _)))) rfl
theorem k_744 : Cond.selects RX3 yX3_sum yX3_sum ∈ tb := cm_4_2 (List.Mem.tail _ (List.Mem.tail _ (List.Mem.tail _ (List.Mem.tail _ (List.Mem.head _))))) rfl
theorem k_745 : Cond.code yX3_sum cX3_sum 3 (some .int) ∈ tb := cm_4_2 (List.Mem.tail _ (List.Mem.tail _ (List.Mem.tail _ (List.Mem.tail _ (List.Mem.tail _ (List.Mem.head _)))))) rfl
theorem k_746 : Cond.methodLink RX8 343 yX8_warmthSpan ∈ tb := cm_4_2 (List.Mem.tail _ (List.Mem.tail _ (List.Mem.tail _ (List.Mem.tail _ (List.Mem.tail _ (List.Mem.tail _ (List.Mem.head _))))))) rfl
theorem k_748 : Cond.instanceMethod yX8_warmthSpan ∈ tb := cm_4_2 (List.Mem.tail _ (List.Mem.tail _ (List.Mem.tail _ (List.Mem.tail _ (List.Mem.tail _ (List.Mem.tail _ (List.Mem.tail _ (List.Mem.tail _ (List.Mem.head _))))))))) rfl
theorem k_749 : Cond.code yX8_warmthSpan cX8_warmthSpan 6 (some .int) ∈ tb := cm_4_2 (List.Mem.tail _ (List.Mem.tail _ (List.Mem.tail _ (List.Mem.tail _ (List.Mem.tail _ (List.Mem.tail _ (List.Mem.tail _ (List.Mem.tail _ (List.Mem.tail _ (List.Mem.head _)))))))))) rfl
theorem k_752 : Cond.methodLink RX8 346 yX4_workOut ∈ tb := cm_4_3 (List.Mem.tail _ (List.Mem.tail _ (List.Mem.head _))) rfl
theorem k_753 : Cond.instanceMethod yX4_workOut ∈ tb := cm_4_3 (List.Mem.tail _ (List.Mem.tail _ (List.Mem.tail _ (List.Mem.head _)))) rfl
theorem k_754 : Cond.selects RX4 yX4_workOut yX4_workOut ∈ tb := cm_4_3 (List.Mem.tail _ (List.Mem.tail _ (List.Mem.tail _ (List.Mem.tail _ (List.Mem.head _))))) rfl
theorem k_755 : Cond.code yX4_workOut cX4_workOut 6 (some .int) ∈ tb := cm_4_3 (List.Mem.tail _ (List.Mem.tail _ (List.Mem.tail _ (List.Mem.tail _ (List.Mem.tail _ (List.Mem.head _)))))) rfl
theorem k_756 : Cond.methodLink RX4 25 yX4_isAhead ∈ tb := cm_4_3 (List.Mem.tail _ (List.Mem.tail _ (List.Mem.tail _ (List.Mem.tail _ (List.Mem.tail _ (List.Mem.tail _ (List.Mem.head _))))))) rfl
theorem k_757 : Cond.static yX4_isAhead ∈ tb := cm_4_3 (List.Mem.tail _ (List.Mem.tail _ (List.Mem.tail _ (List.Mem.tail _ (List.Mem.tail _ (List.Mem.tail _ (List.Mem.tail _ (List.Mem.head _)))))))) rfl
theorem k_758 : Cond.code yX4_isAhead cX4_isAhead 1 (some .boolean) ∈ tb := cm_4_3 (List.Mem.tail _ (List.Mem.tail _ (List.Mem.tail _ (List.Mem.tail _ (List.Mem.tail _ (List.Mem.tail _ (List.Mem.tail _ (List.Mem.tail _ (List.Mem.head _))))))))) rfl
theorem k_759 : Cond.methodLink RX4 29 yX4_workOutOne ∈ tb := cm_4_3 (List.Mem.tail _ (List.Mem.tail _ (List.Mem.tail _ (List.Mem.tail _ (List.Mem.tail _ (List.Mem.tail _ (List.Mem.tail _ (List.Mem.tail _ (List.Mem.tail _ (List.Mem.head _)))))))))) rfl
theorem k_760 : Cond.static yX4_workOutOne ∈ tb := cm_4_4 (List.Mem.head _) rfl
theorem k_761 : Cond.code yX4_workOutOne cX4_workOutOne 2 (some .int) ∈ tb := cm_4_4 (List.Mem.tail _ (List.Mem.head _)) rfl
theorem k_762 : Cond.methodLink RX4 33 yX4_workOutTwo ∈ tb := cm_4_4 (List.Mem.tail _ (List.Mem.tail _ (List.Mem.head _))) rfl
theorem k_763 : Cond.static yX4_workOutTwo ∈ tb := cm_4_4 (List.Mem.tail _ (List.Mem.tail _ (List.Mem.tail _ (List.Mem.head _)))) rfl
theorem k_764 : Cond.code yX4_workOutTwo cX4_workOutTwo 3 (some .int) ∈ tb := cm_4_4 (List.Mem.tail _ (List.Mem.tail _ (List.Mem.tail _ (List.Mem.tail _ (List.Mem.head _))))) rfl
theorem k_765 : Cond.methodLink R_law 102 yX8_order ∈ tb := cm_4_4 (List.Mem.tail _ (List.Mem.tail _ (List.Mem.tail _ (List.Mem.tail _ (List.Mem.tail _ (List.Mem.head _)))))) rfl
theorem k_766 : Cond.instanceMethod yX8_order ∈ tb := cm_4_4 (List.Mem.tail _ (List.Mem.tail _ (List.Mem.tail _ (List.Mem.tail _ (List.Mem.tail _ (List.Mem.tail _ (List.Mem.head _))))))) rfl
theorem k_767 : Cond.selects RX8 yX8_order yX8_order ∈ tb := cm_4_4 (List.Mem.tail _ (List.Mem.tail _ (List.Mem.tail _ (List.Mem.tail _ (List.Mem.tail _ (List.Mem.tail _ (List.Mem.tail _ (List.Mem.head _)))))))) rfl
theorem k_768 : Cond.code yX8_order cX8_order 8 (some .int) ∈ tb := cm_4_4 (List.Mem.tail _ (List.Mem.tail _ (List.Mem.tail _ (List.Mem.tail _ (List.Mem.tail _ (List.Mem.tail _ (List.Mem.tail _ (List.Mem.tail _ (List.Mem.head _))))))))) rfl
theorem k_769 : Cond.methodLink R_law 106 yX8_sail ∈ tb := cm_4_4 (List.Mem.tail _ (List.Mem.tail _ (List.Mem.tail _ (List.Mem.tail _ (List.Mem.tail _ (List.Mem.tail _ (List.Mem.tail _ (List.Mem.tail _ (List.Mem.tail _ (List.Mem.head _)))))))))) rfl
theorem k_770 : Cond.instanceMethod yX8_sail ∈ tb := cm_4_5 (List.Mem.head _) rfl
theorem k_771 : Cond.selects RX8 yX8_sail yX8_sail ∈ tb := cm_4_5 (List.Mem.tail _ (List.Mem.head _)) rfl
theorem k_772 : Cond.code yX8_sail cX8_sail 7 (some .int) ∈ tb := cm_4_5 (List.Mem.tail _ (List.Mem.tail _ (List.Mem.head _))) rfl
theorem k_773 : Cond.methodLink RX8 202 yX8_isShip ∈ tb := cm_4_5 (List.Mem.tail _ (List.Mem.tail _ (List.Mem.tail _ (List.Mem.head _)))) rfl
theorem k_774 : Cond.static yX8_isShip ∈ tb := cm_4_5 (List.Mem.tail _ (List.Mem.tail _ (List.Mem.tail _ (List.Mem.tail _ (List.Mem.head _))))) rfl
theorem k_775 : Cond.code yX8_isShip cX8_isShip 1 (some .boolean) ∈ tb := cm_4_5 (List.Mem.tail _ (List.Mem.tail _ (List.Mem.tail _ (List.Mem.tail _ (List.Mem.tail _ (List.Mem.head _)))))) rfl
theorem k_776 : Cond.methodLink RX8 205 yX8_firstLack ∈ tb := cm_4_5 (List.Mem.tail _ (List.Mem.tail _ (List.Mem.tail _ (List.Mem.tail _ (List.Mem.tail _ (List.Mem.tail _ (List.Mem.head _))))))) rfl
theorem k_778 : Cond.instanceMethod yX8_firstLack ∈ tb := cm_4_5 (List.Mem.tail _ (List.Mem.tail _ (List.Mem.tail _ (List.Mem.tail _ (List.Mem.tail _ (List.Mem.tail _ (List.Mem.tail _ (List.Mem.tail _ (List.Mem.head _))))))))) rfl
theorem k_779 : Cond.code yX8_firstLack cX8_firstLack 4 (some .int) ∈ tb := cm_4_5 (List.Mem.tail _ (List.Mem.tail _ (List.Mem.tail _ (List.Mem.tail _ (List.Mem.tail _ (List.Mem.tail _ (List.Mem.tail _ (List.Mem.tail _ (List.Mem.tail _ (List.Mem.head _)))))))))) rfl
theorem k_780 : Cond.methodLink RX8 211 yX8_isFitToSail ∈ tb := cm_4_6 (List.Mem.head _) rfl
theorem k_782 : Cond.instanceMethod yX8_isFitToSail ∈ tb := cm_4_6 (List.Mem.tail _ (List.Mem.tail _ (List.Mem.head _))) rfl
theorem k_783 : Cond.code yX8_isFitToSail cX8_isFitToSail 3 (some .boolean) ∈ tb := cm_4_6 (List.Mem.tail _ (List.Mem.tail _ (List.Mem.tail _ (List.Mem.head _)))) rfl
theorem k_784 : Cond.methodLink RX8 358 yX8_gatherBeforeSailing ∈ tb := cm_4_6 (List.Mem.tail _ (List.Mem.tail _ (List.Mem.tail _ (List.Mem.tail _ (List.Mem.head _))))) rfl
theorem k_786 : Cond.instanceMethod yX8_gatherBeforeSailing ∈ tb := cm_4_6 (List.Mem.tail _ (List.Mem.tail _ (List.Mem.tail _ (List.Mem.tail _ (List.Mem.tail _ (List.Mem.tail _ (List.Mem.head _))))))) rfl
theorem k_787 : Cond.code yX8_gatherBeforeSailing cX8_gatherBeforeSailing 2 none ∈ tb := cm_4_6 (List.Mem.tail _ (List.Mem.tail _ (List.Mem.tail _ (List.Mem.tail _ (List.Mem.tail _ (List.Mem.tail _ (List.Mem.tail _ (List.Mem.head _)))))))) rfl
theorem k_788 : Cond.methodLink RX8 214 yX5_leave ∈ tb := cm_4_6 (List.Mem.tail _ (List.Mem.tail _ (List.Mem.tail _ (List.Mem.tail _ (List.Mem.tail _ (List.Mem.tail _ (List.Mem.tail _ (List.Mem.tail _ (List.Mem.head _))))))))) rfl
theorem k_789 : Cond.instanceMethod yX5_leave ∈ tb := cm_4_6 (List.Mem.tail _ (List.Mem.tail _ (List.Mem.tail _ (List.Mem.tail _ (List.Mem.tail _ (List.Mem.tail _ (List.Mem.tail _ (List.Mem.tail _ (List.Mem.tail _ (List.Mem.head _)))))))))) rfl
theorem k_790 : Cond.selects RX5 yX5_leave yX5_leave ∈ tb := cm_4_7 (List.Mem.head _) rfl
theorem k_791 : Cond.code yX5_leave cX5_leave 2 none ∈ tb := cm_4_7 (List.Mem.tail _ (List.Mem.head _)) rfl
theorem k_792 : Cond.methodLink RX8 217 yX8_board ∈ tb := cm_4_7 (List.Mem.tail _ (List.Mem.tail _ (List.Mem.head _))) rfl
theorem k_794 : Cond.instanceMethod yX8_board ∈ tb := cm_4_7 (List.Mem.tail _ (List.Mem.tail _ (List.Mem.tail _ (List.Mem.tail _ (List.Mem.head _))))) rfl
theorem k_795 : Cond.code yX8_board cX8_board 7 none ∈ tb := cm_4_7 (List.Mem.tail _ (List.Mem.tail _ (List.Mem.tail _ (List.Mem.tail _ (List.Mem.tail _ (List.Mem.head _)))))) rfl
theorem k_799 : Cond.methodLink RX8 365 yX5_carry ∈ tb := cm_4_7 (List.Mem.tail _ (List.Mem.tail _ (List.Mem.tail _ (List.Mem.tail _ (List.Mem.tail _ (List.Mem.tail _ (List.Mem.tail _ (List.Mem.tail _ (List.Mem.tail _ (List.Mem.head _)))))))))) rfl
theorem k_800 : Cond.instanceMethod yX5_carry ∈ tb := cm_4_8 (List.Mem.head _) rfl
theorem k_801 : Cond.selects RX5 yX5_carry yX5_carry ∈ tb := cm_4_8 (List.Mem.tail _ (List.Mem.head _)) rfl
theorem k_802 : Cond.code yX5_carry cX5_carry 6 none ∈ tb := cm_4_8 (List.Mem.tail _ (List.Mem.tail _ (List.Mem.head _))) rfl
theorem k_803 : Cond.methodLink RX8 288 yX7_giveTo ∈ tb := cm_4_8 (List.Mem.tail _ (List.Mem.tail _ (List.Mem.tail _ (List.Mem.head _)))) rfl
theorem k_804 : Cond.instanceMethod yX7_giveTo ∈ tb := cm_4_8 (List.Mem.tail _ (List.Mem.tail _ (List.Mem.tail _ (List.Mem.tail _ (List.Mem.head _))))) rfl
theorem k_805 : Cond.selects RX7 yX7_giveTo yX7_giveTo ∈ tb := cm_4_8 (List.Mem.tail _ (List.Mem.tail _ (List.Mem.tail _ (List.Mem.tail _ (List.Mem.tail _ (List.Mem.head _)))))) rfl
theorem k_806 : Cond.code yX7_giveTo cX7_giveTo 4 none ∈ tb := cm_4_8 (List.Mem.tail _ (List.Mem.tail _ (List.Mem.tail _ (List.Mem.tail _ (List.Mem.tail _ (List.Mem.tail _ (List.Mem.head _))))))) rfl
theorem k_808 : Cond.methodLink R_law 110 yX8_carried ∈ tb := cm_4_8 (List.Mem.tail _ (List.Mem.tail _ (List.Mem.tail _ (List.Mem.tail _ (List.Mem.tail _ (List.Mem.tail _ (List.Mem.tail _ (List.Mem.tail _ (List.Mem.head _))))))))) rfl
theorem k_809 : Cond.instanceMethod yX8_carried ∈ tb := cm_4_8 (List.Mem.tail _ (List.Mem.tail _ (List.Mem.tail _ (List.Mem.tail _ (List.Mem.tail _ (List.Mem.tail _ (List.Mem.tail _ (List.Mem.tail _ (List.Mem.tail _ (List.Mem.head _)))))))))) rfl
theorem k_810 : Cond.selects RX8 yX8_carried yX8_carried ∈ tb := cm_4_9 (List.Mem.head _) rfl
theorem k_811 : Cond.code yX8_carried cX8_carried 5 (some .int) ∈ tb := cm_4_9 (List.Mem.tail _ (List.Mem.head _)) rfl
theorem k_812 : Cond.methodLink R_law 114 yX8_sight ∈ tb := cm_4_9 (List.Mem.tail _ (List.Mem.tail _ (List.Mem.head _))) rfl
theorem k_813 : Cond.instanceMethod yX8_sight ∈ tb := cm_4_9 (List.Mem.tail _ (List.Mem.tail _ (List.Mem.tail _ (List.Mem.head _)))) rfl
theorem k_814 : Cond.selects RX8 yX8_sight yX8_sight ∈ tb := cm_4_9 (List.Mem.tail _ (List.Mem.tail _ (List.Mem.tail _ (List.Mem.tail _ (List.Mem.head _))))) rfl
theorem k_815 : Cond.code yX8_sight cX8_sight 7 (some .int) ∈ tb := cm_4_9 (List.Mem.tail _ (List.Mem.tail _ (List.Mem.tail _ (List.Mem.tail _ (List.Mem.tail _ (List.Mem.head _)))))) rfl
theorem k_816 : Cond.constant RX8 232 2000000 ∈ tb := cm_4_9 (List.Mem.tail _ (List.Mem.tail _ (List.Mem.tail _ (List.Mem.tail _ (List.Mem.tail _ (List.Mem.tail _ (List.Mem.head _))))))) rfl
theorem k_817 : Cond.methodLink RX8 233 yX5_mayBeSighted ∈ tb := cm_4_9 (List.Mem.tail _ (List.Mem.tail _ (List.Mem.tail _ (List.Mem.tail _ (List.Mem.tail _ (List.Mem.tail _ (List.Mem.tail _ (List.Mem.head _)))))))) rfl
theorem k_818 : Cond.instanceMethod yX5_mayBeSighted ∈ tb := cm_4_9 (List.Mem.tail _ (List.Mem.tail _ (List.Mem.tail _ (List.Mem.tail _ (List.Mem.tail _ (List.Mem.tail _ (List.Mem.tail _ (List.Mem.tail _ (List.Mem.head _))))))))) rfl
theorem k_819 : Cond.selects RX5 yX5_mayBeSighted yX5_mayBeSighted ∈ tb := cm_4_9 (List.Mem.tail _ (List.Mem.tail _ (List.Mem.tail _ (List.Mem.tail _ (List.Mem.tail _ (List.Mem.tail _ (List.Mem.tail _ (List.Mem.tail _ (List.Mem.tail _ (List.Mem.head _)))))))))) rfl
theorem k_820 : Cond.code yX5_mayBeSighted cX5_mayBeSighted 2 (some .boolean) ∈ tb := cm_4_10 (List.Mem.head _) rfl
theorem k_821 : Cond.methodLink RX8 239 yX5_addSight ∈ tb := cm_4_10 (List.Mem.tail _ (List.Mem.head _)) rfl
theorem k_822 : Cond.instanceMethod yX5_addSight ∈ tb := cm_4_10 (List.Mem.tail _ (List.Mem.tail _ (List.Mem.head _))) rfl
theorem k_823 : Cond.selects RX5 yX5_addSight yX5_addSight ∈ tb := cm_4_10 (List.Mem.tail _ (List.Mem.tail _ (List.Mem.tail _ (List.Mem.head _)))) rfl
theorem k_824 : Cond.code yX5_addSight cX5_addSight 5 (some .int) ∈ tb := cm_4_10 (List.Mem.tail _ (List.Mem.tail _ (List.Mem.tail _ (List.Mem.tail _ (List.Mem.head _))))) rfl
theorem k_825 : Cond.methodLink R_law 118 yX8_told ∈ tb := cm_4_10 (List.Mem.tail _ (List.Mem.tail _ (List.Mem.tail _ (List.Mem.tail _ (List.Mem.tail _ (List.Mem.head _)))))) rfl
theorem k_826 : Cond.instanceMethod yX8_told ∈ tb := cm_4_10 (List.Mem.tail _ (List.Mem.tail _ (List.Mem.tail _ (List.Mem.tail _ (List.Mem.tail _ (List.Mem.tail _ (List.Mem.head _))))))) rfl
theorem k_827 : Cond.selects RX8 yX8_told yX8_told ∈ tb := cm_4_10 (List.Mem.tail _ (List.Mem.tail _ (List.Mem.tail _ (List.Mem.tail _ (List.Mem.tail _ (List.Mem.tail _ (List.Mem.tail _ (List.Mem.head _)))))))) rfl
theorem k_828 : Cond.code yX8_told cX8_told 8 (some .int) ∈ tb := cm_4_10 (List.Mem.tail _ (List.Mem.tail _ (List.Mem.tail _ (List.Mem.tail _ (List.Mem.tail _ (List.Mem.tail _ (List.Mem.tail _ (List.Mem.tail _ (List.Mem.head _))))))))) rfl
theorem k_829 : Cond.methodLink RX8 246 yX5_widthOf ∈ tb := cm_4_10 (List.Mem.tail _ (List.Mem.tail _ (List.Mem.tail _ (List.Mem.tail _ (List.Mem.tail _ (List.Mem.tail _ (List.Mem.tail _ (List.Mem.tail _ (List.Mem.tail _ (List.Mem.head _)))))))))) rfl
theorem k_830 : Cond.instanceMethod yX5_widthOf ∈ tb := cm_4_11 (List.Mem.head _) rfl
theorem k_831 : Cond.selects RX5 yX5_widthOf yX5_widthOf ∈ tb := cm_4_11 (List.Mem.tail _ (List.Mem.head _)) rfl
theorem k_832 : Cond.code yX5_widthOf cX5_widthOf 4 (some .int) ∈ tb := cm_4_11 (List.Mem.tail _ (List.Mem.tail _ (List.Mem.head _))) rfl
theorem k_833 : Cond.methodLink RX5 46 yX5_isOf ∈ tb := cm_4_11 (List.Mem.tail _ (List.Mem.tail _ (List.Mem.tail _ (List.Mem.head _)))) rfl
theorem k_835 : Cond.instanceMethod yX5_isOf ∈ tb := cm_4_11 (List.Mem.tail _ (List.Mem.tail _ (List.Mem.tail _ (List.Mem.tail _ (List.Mem.tail _ (List.Mem.head _)))))) rfl
theorem k_836 : Cond.code yX5_isOf cX5_isOf 3 (some .boolean) ∈ tb := cm_4_11 (List.Mem.tail _ (List.Mem.tail _ (List.Mem.tail _ (List.Mem.tail _ (List.Mem.tail _ (List.Mem.tail _ (List.Mem.head _))))))) rfl
theorem k_837 : Cond.methodLink RX5 50 yX5_daysSince ∈ tb := cm_4_11 (List.Mem.tail _ (List.Mem.tail _ (List.Mem.tail _ (List.Mem.tail _ (List.Mem.tail _ (List.Mem.tail _ (List.Mem.tail _ (List.Mem.head _)))))))) rfl
theorem k_838 : Cond.instanceMethod yX5_daysSince ∈ tb := cm_4_11 (List.Mem.tail _ (List.Mem.tail _ (List.Mem.tail _ (List.Mem.tail _ (List.Mem.tail _ (List.Mem.tail _ (List.Mem.tail _ (List.Mem.tail _ (List.Mem.head _))))))))) rfl
theorem k_839 : Cond.selects RX5 yX5_daysSince yX5_daysSince ∈ tb := cm_4_11 (List.Mem.tail _ (List.Mem.tail _ (List.Mem.tail _ (List.Mem.tail _ (List.Mem.tail _ (List.Mem.tail _ (List.Mem.tail _ (List.Mem.tail _ (List.Mem.tail _ (List.Mem.head _)))))))))) rfl
theorem k_840 : Cond.code yX5_daysSince cX5_daysSince 2 (some .int) ∈ tb := cm_4_12 (List.Mem.head _) rfl
theorem k_842 : Cond.methodLink RX8 249 yX5_timeOf ∈ tb := cm_4_12 (List.Mem.tail _ (List.Mem.tail _ (List.Mem.head _))) rfl
theorem k_843 : Cond.instanceMethod yX5_timeOf ∈ tb := cm_4_12 (List.Mem.tail _ (List.Mem.tail _ (List.Mem.tail _ (List.Mem.head _)))) rfl
theorem k_844 : Cond.selects RX5 yX5_timeOf yX5_timeOf ∈ tb := cm_4_12 (List.Mem.tail _ (List.Mem.tail _ (List.Mem.tail _ (List.Mem.tail _ (List.Mem.head _))))) rfl
theorem k_845 : Cond.code yX5_timeOf cX5_timeOf 5 (some .int) ∈ tb := cm_4_12 (List.Mem.tail _ (List.Mem.tail _ (List.Mem.tail _ (List.Mem.tail _ (List.Mem.tail _ (List.Mem.head _)))))) rfl
theorem k_847 : Cond.methodLink RX8 252 yX8_droppedOf ∈ tb := cm_4_12 (List.Mem.tail _ (List.Mem.tail _ (List.Mem.tail _ (List.Mem.tail _ (List.Mem.tail _ (List.Mem.tail _ (List.Mem.tail _ (List.Mem.head _)))))))) rfl
theorem k_849 : Cond.instanceMethod yX8_droppedOf ∈ tb := cm_4_12 (List.Mem.tail _ (List.Mem.tail _ (List.Mem.tail _ (List.Mem.tail _ (List.Mem.tail _ (List.Mem.tail _ (List.Mem.tail _ (List.Mem.tail _ (List.Mem.tail _ (List.Mem.head _)))))))))) rfl
theorem k_850 : Cond.code yX8_droppedOf cX8_droppedOf 7 (some .int) ∈ tb := cm_4_13 (List.Mem.head _) rfl
theorem k_851 : Cond.methodLink RX8 371 yX5_offFromOthers ∈ tb := cm_4_13 (List.Mem.tail _ (List.Mem.head _)) rfl
theorem k_852 : Cond.instanceMethod yX5_offFromOthers ∈ tb := cm_4_13 (List.Mem.tail _ (List.Mem.tail _ (List.Mem.head _))) rfl
theorem k_853 : Cond.selects RX5 yX5_offFromOthers yX5_offFromOthers ∈ tb := cm_4_13 (List.Mem.tail _ (List.Mem.tail _ (List.Mem.tail _ (List.Mem.head _)))) rfl
theorem k_854 : Cond.code yX5_offFromOthers cX5_offFromOthers 4 (some .int) ∈ tb := cm_4_13 (List.Mem.tail _ (List.Mem.tail _ (List.Mem.tail _ (List.Mem.tail _ (List.Mem.head _))))) rfl
theorem k_855 : Cond.methodLink RX5 63 yX5_timeOf ∈ tb := cm_4_13 (List.Mem.tail _ (List.Mem.tail _ (List.Mem.tail _ (List.Mem.tail _ (List.Mem.tail _ (List.Mem.head _)))))) rfl
theorem k_857 : Cond.methodLink RX8 374 yX5_daysSince ∈ tb := cm_4_13 (List.Mem.tail _ (List.Mem.tail _ (List.Mem.tail _ (List.Mem.tail _ (List.Mem.tail _ (List.Mem.tail _ (List.Mem.tail _ (List.Mem.head _)))))))) rfl
theorem k_858 : Cond.methodLink RX8 256 yX5_beginOf ∈ tb := cm_4_13 (List.Mem.tail _ (List.Mem.tail _ (List.Mem.tail _ (List.Mem.tail _ (List.Mem.tail _ (List.Mem.tail _ (List.Mem.tail _ (List.Mem.tail _ (List.Mem.head _))))))))) rfl
theorem k_859 : Cond.instanceMethod yX5_beginOf ∈ tb := cm_4_13 (List.Mem.tail _ (List.Mem.tail _ (List.Mem.tail _ (List.Mem.tail _ (List.Mem.tail _ (List.Mem.tail _ (List.Mem.tail _ (List.Mem.tail _ (List.Mem.tail _ (List.Mem.head _)))))))))) rfl
theorem k_860 : Cond.selects RX5 yX5_beginOf yX5_beginOf ∈ tb := cm_4_14 (List.Mem.head _) rfl
theorem k_861 : Cond.code yX5_beginOf cX5_beginOf 5 (some .int) ∈ tb := cm_4_14 (List.Mem.tail _ (List.Mem.head _)) rfl
theorem k_862 : Cond.constant RX5 69 (-2000000000) ∈ tb := cm_4_14 (List.Mem.tail _ (List.Mem.tail _ (List.Mem.head _))) rfl
theorem k_863 : Cond.methodLink RX5 70 yX5_widthOf ∈ tb := cm_4_14 (List.Mem.tail _ (List.Mem.tail _ (List.Mem.tail _ (List.Mem.head _)))) rfl
theorem k_865 : Cond.methodLink RX8 259 yX5_endOf ∈ tb := cm_4_14 (List.Mem.tail _ (List.Mem.tail _ (List.Mem.tail _ (List.Mem.tail _ (List.Mem.tail _ (List.Mem.head _)))))) rfl
theorem k_866 : Cond.instanceMethod yX5_endOf ∈ tb := cm_4_14 (List.Mem.tail _ (List.Mem.tail _ (List.Mem.tail _ (List.Mem.tail _ (List.Mem.tail _ (List.Mem.tail _ (List.Mem.head _))))))) rfl
theorem k_867 : Cond.selects RX5 yX5_endOf yX5_endOf ∈ tb := cm_4_14 (List.Mem.tail _ (List.Mem.tail _ (List.Mem.tail _ (List.Mem.tail _ (List.Mem.tail _ (List.Mem.tail _ (List.Mem.tail _ (List.Mem.head _)))))))) rfl
theorem k_868 : Cond.code yX5_endOf cX5_endOf 5 (some .int) ∈ tb := cm_4_14 (List.Mem.tail _ (List.Mem.tail _ (List.Mem.tail _ (List.Mem.tail _ (List.Mem.tail _ (List.Mem.tail _ (List.Mem.tail _ (List.Mem.tail _ (List.Mem.head _))))))))) rfl
theorem k_869 : Cond.constant RX5 76 2000000000 ∈ tb := cm_4_14 (List.Mem.tail _ (List.Mem.tail _ (List.Mem.tail _ (List.Mem.tail _ (List.Mem.tail _ (List.Mem.tail _ (List.Mem.tail _ (List.Mem.tail _ (List.Mem.tail _ (List.Mem.head _)))))))))) rfl
theorem k_870 : Cond.methodLink R_law 122 yX8_back ∈ tb := cm_4_15 (List.Mem.head _) rfl
theorem k_871 : Cond.instanceMethod yX8_back ∈ tb := cm_4_15 (List.Mem.tail _ (List.Mem.head _)) rfl
theorem k_872 : Cond.selects RX8 yX8_back yX8_back ∈ tb := cm_4_15 (List.Mem.tail _ (List.Mem.tail _ (List.Mem.head _))) rfl
theorem k_873 : Cond.code yX8_back cX8_back 6 (some .int) ∈ tb := cm_4_15 (List.Mem.tail _ (List.Mem.tail _ (List.Mem.tail _ (List.Mem.head _)))) rfl
theorem k_874 : Cond.methodLink RX8 265 yX5_comeBack ∈ tb := cm_4_15 (List.Mem.tail _ (List.Mem.tail _ (List.Mem.tail _ (List.Mem.tail _ (List.Mem.head _))))) rfl
theorem k_875 : Cond.instanceMethod yX5_comeBack ∈ tb := cm_4_15 (List.Mem.tail _ (List.Mem.tail _ (List.Mem.tail _ (List.Mem.tail _ (List.Mem.tail _ (List.Mem.head _)))))) rfl
theorem k_876 : Cond.selects RX5 yX5_comeBack yX5_comeBack ∈ tb := cm_4_15 (List.Mem.tail _ (List.Mem.tail _ (List.Mem.tail _ (List.Mem.tail _ (List.Mem.tail _ (List.Mem.tail _ (List.Mem.head _))))))) rfl
theorem k_877 : Cond.code yX5_comeBack cX5_comeBack 2 none ∈ tb := cm_4_15 (List.Mem.tail _ (List.Mem.tail _ (List.Mem.tail _ (List.Mem.tail _ (List.Mem.tail _ (List.Mem.tail _ (List.Mem.tail _ (List.Mem.head _)))))))) rfl
theorem k_878 : Cond.methodLink RX8 268 yX8_unload ∈ tb := cm_4_15 (List.Mem.tail _ (List.Mem.tail _ (List.Mem.tail _ (List.Mem.tail _ (List.Mem.tail _ (List.Mem.tail _ (List.Mem.tail _ (List.Mem.tail _ (List.Mem.head _))))))))) rfl
theorem k_880 : Cond.instanceMethod yX8_unload ∈ tb := cm_4_16 (List.Mem.head _) rfl
theorem k_881 : Cond.code yX8_unload cX8_unload 5 none ∈ tb := cm_4_16 (List.Mem.tail _ (List.Mem.head _)) rfl
theorem k_882 : Cond.methodLink R_law 126 yX8_state ∈ tb := cm_4_16 (List.Mem.tail _ (List.Mem.tail _ (List.Mem.head _))) rfl
theorem k_883 : Cond.instanceMethod yX8_state ∈ tb := cm_4_16 (List.Mem.tail _ (List.Mem.tail _ (List.Mem.tail _ (List.Mem.head _)))) rfl
theorem k_884 : Cond.selects RX8 yX8_state yX8_state ∈ tb := cm_4_16 (List.Mem.tail _ (List.Mem.tail _ (List.Mem.tail _ (List.Mem.tail _ (List.Mem.head _))))) rfl
theorem k_885 : Cond.code yX8_state cX8_state 2 (some .int) ∈ tb := cm_4_16 (List.Mem.tail _ (List.Mem.tail _ (List.Mem.tail _ (List.Mem.tail _ (List.Mem.tail _ (List.Mem.head _)))))) rfl
theorem k_886 : Cond.methodLink R_law 130 yX8_doubt ∈ tb := cm_4_16 (List.Mem.tail _ (List.Mem.tail _ (List.Mem.tail _ (List.Mem.tail _ (List.Mem.tail _ (List.Mem.tail _ (List.Mem.head _))))))) rfl
theorem k_887 : Cond.instanceMethod yX8_doubt ∈ tb := cm_4_16 (List.Mem.tail _ (List.Mem.tail _ (List.Mem.tail _ (List.Mem.tail _ (List.Mem.tail _ (List.Mem.tail _ (List.Mem.tail _ (List.Mem.head _)))))))) rfl
theorem k_888 : Cond.selects RX8 yX8_doubt yX8_doubt ∈ tb := cm_4_16 (List.Mem.tail _ (List.Mem.tail _ (List.Mem.tail _ (List.Mem.tail _ (List.Mem.tail _ (List.Mem.tail _ (List.Mem.tail _ (List.Mem.tail _ (List.Mem.head _))))))))) rfl
theorem k_889 : Cond.code yX8_doubt cX8_doubt 2 (some .int) ∈ tb := cm_4_16 (List.Mem.tail _ (List.Mem.tail _ (List.Mem.tail _ (List.Mem.tail _ (List.Mem.tail _ (List.Mem.tail _ (List.Mem.tail _ (List.Mem.tail _ (List.Mem.tail _ (List.Mem.head _)))))))))) rfl
theorem k_890 : Cond.methodLink RX8 278 yX0_add ∈ tb := cm_4_17 (List.Mem.head _) rfl
theorem k_891 : Cond.instanceMethod yX0_add ∈ tb := cm_4_17 (List.Mem.tail _ (List.Mem.head _)) rfl
theorem k_892 : Cond.selects RX0 yX0_add yX0_add ∈ tb := cm_4_17 (List.Mem.tail _ (List.Mem.tail _ (List.Mem.head _))) rfl
theorem k_893 : Cond.code yX0_add cX0_add 2 none ∈ tb := cm_4_17 (List.Mem.tail _ (List.Mem.tail _ (List.Mem.tail _ (List.Mem.head _)))) rfl
theorem k_894 : Cond.methodLink R_law 134 yX8_deal ∈ tb := cm_4_17 (List.Mem.tail _ (List.Mem.tail _ (List.Mem.tail _ (List.Mem.tail _ (List.Mem.head _))))) rfl
theorem k_895 : Cond.instanceMethod yX8_deal ∈ tb := cm_4_17 (List.Mem.tail _ (List.Mem.tail _ (List.Mem.tail _ (List.Mem.tail _ (List.Mem.tail _ (List.Mem.head _)))))) rfl
theorem k_896 : Cond.selects RX8 yX8_deal yX8_deal ∈ tb := cm_4_17 (List.Mem.tail _ (List.Mem.tail _ (List.Mem.tail _ (List.Mem.tail _ (List.Mem.tail _ (List.Mem.tail _ (List.Mem.head _))))))) rfl
theorem k_897 : Cond.code yX8_deal cX8_deal 5 (some .int) ∈ tb := cm_4_17 (List.Mem.tail _ (List.Mem.tail _ (List.Mem.tail _ (List.Mem.tail _ (List.Mem.tail _ (List.Mem.tail _ (List.Mem.tail _ (List.Mem.head _)))))))) rfl
theorem k_898 : Cond.methodLink RX8 279 yX0_shareOut ∈ tb := cm_4_17 (List.Mem.tail _ (List.Mem.tail _ (List.Mem.tail _ (List.Mem.tail _ (List.Mem.tail _ (List.Mem.tail _ (List.Mem.tail _ (List.Mem.tail _ (List.Mem.head _))))))))) rfl
theorem k_899 : Cond.instanceMethod yX0_shareOut ∈ tb := cm_4_17 (List.Mem.tail _ (List.Mem.tail _ (List.Mem.tail _ (List.Mem.tail _ (List.Mem.tail _ (List.Mem.tail _ (List.Mem.tail _ (List.Mem.tail _ (List.Mem.tail _ (List.Mem.head _)))))))))) rfl
theorem k_900 : Cond.selects RX0 yX0_shareOut yX0_shareOut ∈ tb := cm_4_18 (List.Mem.head _) rfl
theorem k_901 : Cond.code yX0_shareOut cX0_shareOut 6 (some .int) ∈ tb := cm_4_18 (List.Mem.tail _ (List.Mem.head _)) rfl
theorem k_904 : Cond.constant RX0 49 2000000000 ∈ tb := cm_4_18 (List.Mem.tail _ (List.Mem.tail _ (List.Mem.tail _ (List.Mem.tail _ (List.Mem.head _))))) rfl
theorem k_905 : Cond.methodLink RX0 50 yX0_tryFrom ∈ tb := cm_4_18 (List.Mem.tail _ (List.Mem.tail _ (List.Mem.tail _ (List.Mem.tail _ (List.Mem.tail _ (List.Mem.head _)))))) rfl
theorem k_907 : Cond.instanceMethod yX0_tryFrom ∈ tb := cm_4_18 (List.Mem.tail _ (List.Mem.tail _ (List.Mem.tail _ (List.Mem.tail _ (List.Mem.tail _ (List.Mem.tail _ (List.Mem.tail _ (List.Mem.head _)))))))) rfl
theorem k_908 : Cond.code yX0_tryFrom cX0_tryFrom 4 none ∈ tb := cm_4_18 (List.Mem.tail _ (List.Mem.tail _ (List.Mem.tail _ (List.Mem.tail _ (List.Mem.tail _ (List.Mem.tail _ (List.Mem.tail _ (List.Mem.tail _ (List.Mem.head _))))))))) rfl
theorem k_909 : Cond.methodLink RX0 54 yX0_keepIfBetter ∈ tb := cm_4_18 (List.Mem.tail _ (List.Mem.tail _ (List.Mem.tail _ (List.Mem.tail _ (List.Mem.tail _ (List.Mem.tail _ (List.Mem.tail _ (List.Mem.tail _ (List.Mem.tail _ (List.Mem.head _)))))))))) rfl
theorem k_911 : Cond.instanceMethod yX0_keepIfBetter ∈ tb := cm_4_19 (List.Mem.tail _ (List.Mem.head _)) rfl
theorem k_912 : Cond.code yX0_keepIfBetter cX0_keepIfBetter 3 none ∈ tb := cm_4_19 (List.Mem.tail _ (List.Mem.tail _ (List.Mem.head _))) rfl
theorem k_913 : Cond.methodLink RX0 57 yX0_secondLeast ∈ tb := cm_4_19 (List.Mem.tail _ (List.Mem.tail _ (List.Mem.tail _ (List.Mem.head _)))) rfl
theorem k_915 : Cond.instanceMethod yX0_secondLeast ∈ tb := cm_4_19 (List.Mem.tail _ (List.Mem.tail _ (List.Mem.tail _ (List.Mem.tail _ (List.Mem.tail _ (List.Mem.head _)))))) rfl
theorem k_916 : Cond.code yX0_secondLeast cX0_secondLeast 6 (some .int) ∈ tb := cm_4_19 (List.Mem.tail _ (List.Mem.tail _ (List.Mem.tail _ (List.Mem.tail _ (List.Mem.tail _ (List.Mem.tail _ (List.Mem.head _))))))) rfl
theorem k_917 : Cond.methodLink R_law 138 yX8_dealt ∈ tb := cm_4_19 (List.Mem.tail _ (List.Mem.tail _ (List.Mem.tail _ (List.Mem.tail _ (List.Mem.tail _ (List.Mem.tail _ (List.Mem.tail _ (List.Mem.head _)))))))) rfl
theorem k_918 : Cond.instanceMethod yX8_dealt ∈ tb := cm_4_19 (List.Mem.tail _ (List.Mem.tail _ (List.Mem.tail _ (List.Mem.tail _ (List.Mem.tail _ (List.Mem.tail _ (List.Mem.tail _ (List.Mem.tail _ (List.Mem.head _))))))))) rfl
theorem k_919 : Cond.selects RX8 yX8_dealt yX8_dealt ∈ tb := cm_4_19 (List.Mem.tail _ (List.Mem.tail _ (List.Mem.tail _ (List.Mem.tail _ (List.Mem.tail _ (List.Mem.tail _ (List.Mem.tail _ (List.Mem.tail _ (List.Mem.tail _ (List.Mem.head _)))))))))) rfl
theorem k_920 : Cond.code yX8_dealt cX8_dealt 2 (some .int) ∈ tb := cm_4_20 (List.Mem.head _) rfl
theorem k_921 : Cond.methodLink R_law 142 yX8_lend ∈ tb := cm_4_20 (List.Mem.tail _ (List.Mem.head _)) rfl
theorem k_922 : Cond.instanceMethod yX8_lend ∈ tb := cm_4_20 (List.Mem.tail _ (List.Mem.tail _ (List.Mem.head _))) rfl
theorem k_923 : Cond.selects RX8 yX8_lend yX8_lend ∈ tb := cm_4_20 (List.Mem.tail _ (List.Mem.tail _ (List.Mem.tail _ (List.Mem.head _)))) rfl
theorem k_924 : Cond.code yX8_lend cX8_lend 4 (some .int) ∈ tb := cm_4_20 (List.Mem.tail _ (List.Mem.tail _ (List.Mem.tail _ (List.Mem.tail _ (List.Mem.head _))))) rfl
theorem k_925 : Cond.methodLink R_law 146 yX8_home ∈ tb := cm_4_20 (List.Mem.tail _ (List.Mem.tail _ (List.Mem.tail _ (List.Mem.tail _ (List.Mem.tail _ (List.Mem.head _)))))) rfl
theorem k_926 : Cond.instanceMethod yX8_home ∈ tb := cm_4_20 (List.Mem.tail _ (List.Mem.tail _ (List.Mem.tail _ (List.Mem.tail _ (List.Mem.tail _ (List.Mem.tail _ (List.Mem.head _))))))) rfl
theorem k_927 : Cond.selects RX8 yX8_home yX8_home ∈ tb := cm_4_20 (List.Mem.tail _ (List.Mem.tail _ (List.Mem.tail _ (List.Mem.tail _ (List.Mem.tail _ (List.Mem.tail _ (List.Mem.tail _ (List.Mem.head _)))))))) rfl
theorem k_928 : Cond.code yX8_home cX8_home 4 (some .int) ∈ tb := cm_4_20 (List.Mem.tail _ (List.Mem.tail _ (List.Mem.tail _ (List.Mem.tail _ (List.Mem.tail _ (List.Mem.tail _ (List.Mem.tail _ (List.Mem.tail _ (List.Mem.head _))))))))) rfl
theorem k_929 : Cond.methodLink R_law 150 yX8_holder ∈ tb := cm_4_20 (List.Mem.tail _ (List.Mem.tail _ (List.Mem.tail _ (List.Mem.tail _ (List.Mem.tail _ (List.Mem.tail _ (List.Mem.tail _ (List.Mem.tail _ (List.Mem.tail _ (List.Mem.head _)))))))))) rfl
theorem k_930 : Cond.instanceMethod yX8_holder ∈ tb := cm_4_21 (List.Mem.head _) rfl
theorem k_931 : Cond.selects RX8 yX8_holder yX8_holder ∈ tb := cm_4_21 (List.Mem.tail _ (List.Mem.head _)) rfl
theorem k_932 : Cond.code yX8_holder cX8_holder 4 (some .int) ∈ tb := cm_4_21 (List.Mem.tail _ (List.Mem.tail _ (List.Mem.head _))) rfl
theorem k_933 : Cond.methodLink R_law 154 yX8_away ∈ tb := cm_4_21 (List.Mem.tail _ (List.Mem.tail _ (List.Mem.tail _ (List.Mem.head _)))) rfl
theorem k_934 : Cond.instanceMethod yX8_away ∈ tb := cm_4_21 (List.Mem.tail _ (List.Mem.tail _ (List.Mem.tail _ (List.Mem.tail _ (List.Mem.head _))))) rfl
theorem k_935 : Cond.selects RX8 yX8_away yX8_away ∈ tb := cm_4_21 (List.Mem.tail _ (List.Mem.tail _ (List.Mem.tail _ (List.Mem.tail _ (List.Mem.tail _ (List.Mem.head _)))))) rfl
theorem k_936 : Cond.code yX8_away cX8_away 3 (some .int) ∈ tb := cm_4_21 (List.Mem.tail _ (List.Mem.tail _ (List.Mem.tail _ (List.Mem.tail _ (List.Mem.tail _ (List.Mem.tail _ (List.Mem.head _))))))) rfl
theorem k_937 : Cond.methodLink RX8 292 yX7_daysAway ∈ tb := cm_4_21 (List.Mem.tail _ (List.Mem.tail _ (List.Mem.tail _ (List.Mem.tail _ (List.Mem.tail _ (List.Mem.tail _ (List.Mem.tail _ (List.Mem.head _)))))))) rfl
theorem k_938 : Cond.instanceMethod yX7_daysAway ∈ tb := cm_4_21 (List.Mem.tail _ (List.Mem.tail _ (List.Mem.tail _ (List.Mem.tail _ (List.Mem.tail _ (List.Mem.tail _ (List.Mem.tail _ (List.Mem.tail _ (List.Mem.head _))))))))) rfl
theorem k_939 : Cond.selects RX7 yX7_daysAway yX7_daysAway ∈ tb := cm_4_21 (List.Mem.tail _ (List.Mem.tail _ (List.Mem.tail _ (List.Mem.tail _ (List.Mem.tail _ (List.Mem.tail _ (List.Mem.tail _ (List.Mem.tail _ (List.Mem.tail _ (List.Mem.head _)))))))))) rfl
theorem k_940 : Cond.code yX7_daysAway cX7_daysAway 4 (some .int) ∈ tb := cm_4_22 (List.Mem.head _) rfl
theorem k_941 : Cond.methodLink R_law 158 yX8_count ∈ tb := cm_4_22 (List.Mem.tail _ (List.Mem.head _)) rfl
theorem k_942 : Cond.instanceMethod yX8_count ∈ tb := cm_4_22 (List.Mem.tail _ (List.Mem.tail _ (List.Mem.head _))) rfl
theorem k_943 : Cond.selects RX8 yX8_count yX8_count ∈ tb := cm_4_22 (List.Mem.tail _ (List.Mem.tail _ (List.Mem.tail _ (List.Mem.head _)))) rfl
theorem k_944 : Cond.code yX8_count cX8_count 2 (some .int) ∈ tb := cm_4_22 (List.Mem.tail _ (List.Mem.tail _ (List.Mem.tail _ (List.Mem.tail _ (List.Mem.head _))))) rfl
theorem k_945 : Cond.methodLink RX8 295 yX8_placesWith ∈ tb := cm_4_22 (List.Mem.tail _ (List.Mem.tail _ (List.Mem.tail _ (List.Mem.tail _ (List.Mem.tail _ (List.Mem.head _)))))) rfl
theorem k_947 : Cond.instanceMethod yX8_placesWith ∈ tb := cm_4_22 (List.Mem.tail _ (List.Mem.tail _ (List.Mem.tail _ (List.Mem.tail _ (List.Mem.tail _ (List.Mem.tail _ (List.Mem.tail _ (List.Mem.head _)))))))) rfl
theorem k_948 : Cond.code yX8_placesWith cX8_placesWith 4 (some .int) ∈ tb := cm_4_22 (List.Mem.tail _ (List.Mem.tail _ (List.Mem.tail _ (List.Mem.tail _ (List.Mem.tail _ (List.Mem.tail _ (List.Mem.tail _ (List.Mem.tail _ (List.Mem.head _))))))))) rfl
theorem k_949 : Cond.methodLink RX8 298 yX8_shipsAtSea ∈ tb := cm_4_22 (List.Mem.tail _ (List.Mem.tail _ (List.Mem.tail _ (List.Mem.tail _ (List.Mem.tail _ (List.Mem.tail _ (List.Mem.tail _ (List.Mem.tail _ (List.Mem.tail _ (List.Mem.head _)))))))))) rfl
theorem k_951 : Cond.instanceMethod yX8_shipsAtSea ∈ tb := cm_4_23 (List.Mem.tail _ (List.Mem.head _)) rfl
theorem k_952 : Cond.code yX8_shipsAtSea cX8_shipsAtSea 3 (some .int) ∈ tb := cm_4_23 (List.Mem.tail _ (List.Mem.tail _ (List.Mem.head _))) rfl
theorem k_953 : Cond.classLink R_law 10 RX9 ∈ tb := cm_4_23 (List.Mem.tail _ (List.Mem.tail _ (List.Mem.tail _ (List.Mem.head _)))) rfl
theorem k_954 : Cond.instantiable RX9 68 ∈ tb := cm_4_23 (List.Mem.tail _ (List.Mem.tail _ (List.Mem.tail _ (List.Mem.tail _ (List.Mem.head _))))) rfl
theorem k_955 : Cond.methodLink R_law 12 yX9_init ∈ tb := cm_4_23 (List.Mem.tail _ (List.Mem.tail _ (List.Mem.tail _ (List.Mem.tail _ (List.Mem.tail _ (List.Mem.head _)))))) rfl
theorem k_956 : Cond.instanceMethod yX9_init ∈ tb := cm_4_23 (List.Mem.tail _ (List.Mem.tail _ (List.Mem.tail _ (List.Mem.tail _ (List.Mem.tail _ (List.Mem.tail _ (List.Mem.head _))))))) rfl
theorem k_957 : Cond.code yX9_init cX9_init 2 none ∈ tb := cm_4_23 (List.Mem.tail _ (List.Mem.tail _ (List.Mem.tail _ (List.Mem.tail _ (List.Mem.tail _ (List.Mem.tail _ (List.Mem.tail _ (List.Mem.head _)))))))) rfl
theorem k_958 : Cond.methodLink RX9 7 objectInit ∈ tb := cm_4_23 (List.Mem.tail _ (List.Mem.tail _ (List.Mem.tail _ (List.Mem.tail _ (List.Mem.tail _ (List.Mem.tail _ (List.Mem.tail _ (List.Mem.tail _ (List.Mem.head _))))))))) rfl
theorem k_959 : Cond.fieldLink RX9 156 "SeaWatchesModel" "today" "I" ∈ tb := cm_4_23 (List.Mem.tail _ (List.Mem.tail _ (List.Mem.tail _ (List.Mem.tail _ (List.Mem.tail _ (List.Mem.tail _ (List.Mem.tail _ (List.Mem.tail _ (List.Mem.tail _ (List.Mem.head _)))))))))) rfl
theorem k_960 : Cond.fieldLink RX9 13 "SeaWatchesModel" "warmths" "[I" ∈ tb := cm_5_0 (List.Mem.head _) rfl
theorem k_961 : Cond.fieldLink RX9 17 "SeaWatchesModel" "kind" "[I" ∈ tb := cm_5_0 (List.Mem.tail _ (List.Mem.head _)) rfl
theorem k_962 : Cond.fieldLink RX9 20 "SeaWatchesModel" "mark" "[I" ∈ tb := cm_5_0 (List.Mem.tail _ (List.Mem.tail _ (List.Mem.head _))) rfl
theorem k_963 : Cond.fieldLink RX9 23 "SeaWatchesModel" "has" "[Z" ∈ tb := cm_5_0 (List.Mem.tail _ (List.Mem.tail _ (List.Mem.tail _ (List.Mem.head _)))) rfl
theorem k_964 : Cond.fieldLink RX9 27 "SeaWatchesModel" "errors" "[I" ∈ tb := cm_5_0 (List.Mem.tail _ (List.Mem.tail _ (List.Mem.tail _ (List.Mem.tail _ (List.Mem.head _))))) rfl
theorem k_965 : Cond.fieldLink RX9 30 "SeaWatchesModel" "sources" "[I" ∈ tb := cm_5_0 (List.Mem.tail _ (List.Mem.tail _ (List.Mem.tail _ (List.Mem.tail _ (List.Mem.tail _ (List.Mem.head _)))))) rfl
theorem k_966 : Cond.fieldLink RX9 33 "SeaWatchesModel" "repaired" "[Z" ∈ tb := cm_5_0 (List.Mem.tail _ (List.Mem.tail _ (List.Mem.tail _ (List.Mem.tail _ (List.Mem.tail _ (List.Mem.tail _ (List.Mem.head _))))))) rfl
theorem k_967 : Cond.fieldLink RX9 36 "SeaWatchesModel" "lateOn" "[Z" ∈ tb := cm_5_0 (List.Mem.tail _ (List.Mem.tail _ (List.Mem.tail _ (List.Mem.tail _ (List.Mem.tail _ (List.Mem.tail _ (List.Mem.tail _ (List.Mem.head _)))))))) rfl
theorem k_968 : Cond.fieldLink RX9 39 "SeaWatchesModel" "holders" "[I" ∈ tb := cm_5_0 (List.Mem.tail _ (List.Mem.tail _ (List.Mem.tail _ (List.Mem.tail _ (List.Mem.tail _ (List.Mem.tail _ (List.Mem.tail _ (List.Mem.tail _ (List.Mem.head _))))))))) rfl
theorem k_969 : Cond.fieldLink RX9 175 "SeaWatchesModel" "offs" "I" ∈ tb := cm_5_0 (List.Mem.tail _ (List.Mem.tail _ (List.Mem.tail _ (List.Mem.tail _ (List.Mem.tail _ (List.Mem.tail _ (List.Mem.tail _ (List.Mem.tail _ (List.Mem.tail _ (List.Mem.head _)))))))))) rfl
theorem k_970 : Cond.fieldLink RX9 42 "SeaWatchesModel" "offSignal" "[I" ∈ tb := cm_5_1 (List.Mem.head _) rfl
theorem k_971 : Cond.fieldLink RX9 45 "SeaWatchesModel" "offFrom" "[I" ∈ tb := cm_5_1 (List.Mem.tail _ (List.Mem.head _)) rfl
theorem k_972 : Cond.fieldLink RX9 48 "SeaWatchesModel" "offTo" "[I" ∈ tb := cm_5_1 (List.Mem.tail _ (List.Mem.tail _ (List.Mem.head _))) rfl
theorem k_973 : Cond.fieldLink RX9 51 "SeaWatchesModel" "offBy" "[I" ∈ tb := cm_5_1 (List.Mem.tail _ (List.Mem.tail _ (List.Mem.tail _ (List.Mem.head _)))) rfl
theorem k_974 : Cond.fieldLink RX9 54 "SeaWatchesModel" "offDay" "[I" ∈ tb := cm_5_1 (List.Mem.tail _ (List.Mem.tail _ (List.Mem.tail _ (List.Mem.tail _ (List.Mem.head _))))) rfl
theorem k_975 : Cond.fieldLink RX9 199 "SeaWatchesModel" "many" "J" ∈ tb := cm_5_1 (List.Mem.tail _ (List.Mem.tail _ (List.Mem.tail _ (List.Mem.tail _ (List.Mem.tail _ (List.Mem.head _)))))) rfl
theorem k_976 : Cond.fieldLink RX9 203 "SeaWatchesModel" "sumW" "J" ∈ tb := cm_5_1 (List.Mem.tail _ (List.Mem.tail _ (List.Mem.tail _ (List.Mem.tail _ (List.Mem.tail _ (List.Mem.tail _ (List.Mem.head _))))))) rfl
theorem k_977 : Cond.fieldLink RX9 206 "SeaWatchesModel" "sumA" "J" ∈ tb := cm_5_1 (List.Mem.tail _ (List.Mem.tail _ (List.Mem.tail _ (List.Mem.tail _ (List.Mem.tail _ (List.Mem.tail _ (List.Mem.tail _ (List.Mem.head _)))))))) rfl
theorem k_978 : Cond.fieldLink RX9 209 "SeaWatchesModel" "sumR" "J" ∈ tb := cm_5_1 (List.Mem.tail _ (List.Mem.tail _ (List.Mem.tail _ (List.Mem.tail _ (List.Mem.tail _ (List.Mem.tail _ (List.Mem.tail _ (List.Mem.tail _ (List.Mem.head _))))))))) rfl
theorem k_979 : Cond.fieldLink RX9 212 "SeaWatchesModel" "sumWW" "J" ∈ tb := cm_5_1 (List.Mem.tail _ (List.Mem.tail _ (List.Mem.tail _ (List.Mem.tail _ (List.Mem.tail _ (List.Mem.tail _ (List.Mem.tail _ (List.Mem.tail _ (List.Mem.tail _ (List.Mem.head _)))))))))) rfl
theorem k_980 : Cond.fieldLink RX9 215 "SeaWatchesModel" "sumWA" "J" ∈ tb := cm_5_2 (List.Mem.head _) rfl
theorem k_981 : Cond.fieldLink RX9 218 "SeaWatchesModel" "sumAA" "J" ∈ tb := cm_5_2 (List.Mem.tail _ (List.Mem.head _)) rfl
theorem k_982 : Cond.fieldLink RX9 221 "SeaWatchesModel" "sumWR" "J" ∈ tb := cm_5_2 (List.Mem.tail _ (List.Mem.tail _ (List.Mem.head _))) rfl
theorem k_983 : Cond.fieldLink RX9 224 "SeaWatchesModel" "sumAR" "J" ∈ tb := cm_5_2 (List.Mem.tail _ (List.Mem.tail _ (List.Mem.tail _ (List.Mem.head _)))) rfl
theorem k_984 : Cond.fieldLink RX9 256 "SeaWatchesModel" "upper" "J" ∈ tb := cm_5_2 (List.Mem.tail _ (List.Mem.tail _ (List.Mem.tail _ (List.Mem.tail _ (List.Mem.head _))))) rfl
theorem k_985 : Cond.fieldLink RX9 253 "SeaWatchesModel" "lower" "J" ∈ tb := cm_5_2 (List.Mem.tail _ (List.Mem.tail _ (List.Mem.tail _ (List.Mem.tail _ (List.Mem.tail _ (List.Mem.head _)))))) rfl
theorem k_986 : Cond.fieldLink RX9 278 "SeaWatchesModel" "rates" "I" ∈ tb := cm_5_2 (List.Mem.tail _ (List.Mem.tail _ (List.Mem.tail _ (List.Mem.tail _ (List.Mem.tail _ (List.Mem.tail _ (List.Mem.head _))))))) rfl
theorem k_987 : Cond.fieldLink RX9 57 "SeaWatchesModel" "rateDay" "[I" ∈ tb := cm_5_2 (List.Mem.tail _ (List.Mem.tail _ (List.Mem.tail _ (List.Mem.tail _ (List.Mem.tail _ (List.Mem.tail _ (List.Mem.tail _ (List.Mem.head _)))))))) rfl
theorem k_988 : Cond.fieldLink RX9 60 "SeaWatchesModel" "rate" "[I" ∈ tb := cm_5_2 (List.Mem.tail _ (List.Mem.tail _ (List.Mem.tail _ (List.Mem.tail _ (List.Mem.tail _ (List.Mem.tail _ (List.Mem.tail _ (List.Mem.tail _ (List.Mem.head _))))))))) rfl
theorem k_989 : Cond.fieldLink RX9 63 "SeaWatchesModel" "sorted" "[I" ∈ tb := cm_5_2 (List.Mem.tail _ (List.Mem.tail _ (List.Mem.tail _ (List.Mem.tail _ (List.Mem.tail _ (List.Mem.tail _ (List.Mem.tail _ (List.Mem.tail _ (List.Mem.tail _ (List.Mem.head _)))))))))) rfl
theorem k_990 : Cond.fieldLink RX9 66 "SeaWatchesModel" "tape" "[B" ∈ tb := cm_5_3 (List.Mem.head _) rfl
theorem k_991 : Cond.fieldLink RX9 284 "SeaWatchesModel" "taped" "I" ∈ tb := cm_5_3 (List.Mem.tail _ (List.Mem.head _)) rfl
theorem k_992 : Cond.fieldLink RX9 70 "SeaWatchesModel" "hasRule" "[Z" ∈ tb := cm_5_3 (List.Mem.tail _ (List.Mem.tail _ (List.Mem.head _))) rfl
theorem k_993 : Cond.fieldLink RX9 73 "SeaWatchesModel" "ruleSize" "[I" ∈ tb := cm_5_3 (List.Mem.tail _ (List.Mem.tail _ (List.Mem.tail _ (List.Mem.head _)))) rfl
theorem k_994 : Cond.fieldLink RX9 76 "SeaWatchesModel" "step" "[I" ∈ tb := cm_5_3 (List.Mem.tail _ (List.Mem.tail _ (List.Mem.tail _ (List.Mem.tail _ (List.Mem.head _))))) rfl
theorem k_995 : Cond.fieldLink RX9 79 "SeaWatchesModel" "number" "[I" ∈ tb := cm_5_3 (List.Mem.tail _ (List.Mem.tail _ (List.Mem.tail _ (List.Mem.tail _ (List.Mem.tail _ (List.Mem.head _)))))) rfl
theorem k_996 : Cond.fieldLink RX9 348 "SeaWatchesModel" "laid" "I" ∈ tb := cm_5_3 (List.Mem.tail _ (List.Mem.tail _ (List.Mem.tail _ (List.Mem.tail _ (List.Mem.tail _ (List.Mem.tail _ (List.Mem.head _))))))) rfl
theorem k_997 : Cond.fieldLink RX9 287 "SeaWatchesModel" "at" "I" ∈ tb := cm_5_3 (List.Mem.tail _ (List.Mem.tail _ (List.Mem.tail _ (List.Mem.tail _ (List.Mem.tail _ (List.Mem.tail _ (List.Mem.tail _ (List.Mem.head _)))))))) rfl
theorem k_998 : Cond.fieldLink RX9 293 "SeaWatchesModel" "tk" "I" ∈ tb := cm_5_3 (List.Mem.tail _ (List.Mem.tail _ (List.Mem.tail _ (List.Mem.tail _ (List.Mem.tail _ (List.Mem.tail _ (List.Mem.tail _ (List.Mem.tail _ (List.Mem.head _))))))))) rfl
theorem k_999 : Cond.fieldLink RX9 290 "SeaWatchesModel" "tkAt" "I" ∈ tb := cm_5_3 (List.Mem.tail _ (List.Mem.tail _ (List.Mem.tail _ (List.Mem.tail _ (List.Mem.tail _ (List.Mem.tail _ (List.Mem.tail _ (List.Mem.tail _ (List.Mem.tail _ (List.Mem.head _)))))))))) rfl
theorem k_1000 : Cond.fieldLink RX9 310 "SeaWatchesModel" "tkNumber" "I" ∈ tb := cm_5_4 (List.Mem.head _) rfl
theorem k_1001 : Cond.fieldLink RX9 82 "SeaWatchesModel" "wait" "[I" ∈ tb := cm_5_4 (List.Mem.tail _ (List.Mem.head _)) rfl
theorem k_1002 : Cond.fieldLink RX9 351 "SeaWatchesModel" "waits" "I" ∈ tb := cm_5_4 (List.Mem.tail _ (List.Mem.tail _ (List.Mem.head _))) rfl
theorem k_1003 : Cond.fieldLink RX9 85 "SeaWatchesModel" "pile" "[I" ∈ tb := cm_5_4 (List.Mem.tail _ (List.Mem.tail _ (List.Mem.tail _ (List.Mem.head _)))) rfl
theorem k_1004 : Cond.fieldLink RX9 88 "SeaWatchesModel" "named" "[I" ∈ tb := cm_5_4 (List.Mem.tail _ (List.Mem.tail _ (List.Mem.tail _ (List.Mem.tail _ (List.Mem.head _))))) rfl
theorem k_1005 : Cond.fieldLink RX9 91 "SeaWatchesModel" "shipState" "[I" ∈ tb := cm_5_4 (List.Mem.tail _ (List.Mem.tail _ (List.Mem.tail _ (List.Mem.tail _ (List.Mem.tail _ (List.Mem.head _)))))) rfl
theorem k_1006 : Cond.fieldLink RX9 94 "SeaWatchesModel" "sailedOn" "[I" ∈ tb := cm_5_4 (List.Mem.tail _ (List.Mem.tail _ (List.Mem.tail _ (List.Mem.tail _ (List.Mem.tail _ (List.Mem.tail _ (List.Mem.head _))))))) rfl
theorem k_1007 : Cond.fieldLink RX9 97 "SeaWatchesModel" "backAfter" "[I" ∈ tb := cm_5_4 (List.Mem.tail _ (List.Mem.tail _ (List.Mem.tail _ (List.Mem.tail _ (List.Mem.tail _ (List.Mem.tail _ (List.Mem.tail _ (List.Mem.head _)))))))) rfl
theorem k_1008 : Cond.fieldLink RX9 100 "SeaWatchesModel" "carriedAt" "[I" ∈ tb := cm_5_4 (List.Mem.tail _ (List.Mem.tail _ (List.Mem.tail _ (List.Mem.tail _ (List.Mem.tail _ (List.Mem.tail _ (List.Mem.tail _ (List.Mem.tail _ (List.Mem.head _))))))))) rfl
theorem k_1009 : Cond.fieldLink RX9 103 "SeaWatchesModel" "start" "[I" ∈ tb := cm_5_4 (List.Mem.tail _ (List.Mem.tail _ (List.Mem.tail _ (List.Mem.tail _ (List.Mem.tail _ (List.Mem.tail _ (List.Mem.tail _ (List.Mem.tail _ (List.Mem.tail _ (List.Mem.head _)))))))))) rfl
theorem k_1010 : Cond.fieldLink RX9 106 "SeaWatchesModel" "going" "[I" ∈ tb := cm_5_5 (List.Mem.head _) rfl
theorem k_1011 : Cond.fieldLink RX9 109 "SeaWatchesModel" "doubts" "[I" ∈ tb := cm_5_5 (List.Mem.tail _ (List.Mem.head _)) rfl
theorem k_1012 : Cond.fieldLink RX9 112 "SeaWatchesModel" "backError" "[I" ∈ tb := cm_5_5 (List.Mem.tail _ (List.Mem.tail _ (List.Mem.head _))) rfl
theorem k_1013 : Cond.fieldLink RX9 115 "SeaWatchesModel" "sights" "[I" ∈ tb := cm_5_5 (List.Mem.tail _ (List.Mem.tail _ (List.Mem.tail _ (List.Mem.head _)))) rfl
theorem k_1014 : Cond.fieldLink RX9 118 "SeaWatchesModel" "sightDay" "[I" ∈ tb := cm_5_5 (List.Mem.tail _ (List.Mem.tail _ (List.Mem.tail _ (List.Mem.tail _ (List.Mem.head _))))) rfl
theorem k_1015 : Cond.fieldLink RX9 121 "SeaWatchesModel" "shown" "[I" ∈ tb := cm_5_5 (List.Mem.tail _ (List.Mem.tail _ (List.Mem.tail _ (List.Mem.tail _ (List.Mem.tail _ (List.Mem.head _)))))) rfl
theorem k_1016 : Cond.fieldLink RX9 124 "SeaWatchesModel" "asks" "[I" ∈ tb := cm_5_5 (List.Mem.tail _ (List.Mem.tail _ (List.Mem.tail _ (List.Mem.tail _ (List.Mem.tail _ (List.Mem.tail _ (List.Mem.head _))))))) rfl
theorem k_1017 : Cond.fieldLink RX9 127 "SeaWatchesModel" "times" "[I" ∈ tb := cm_5_5 (List.Mem.tail _ (List.Mem.tail _ (List.Mem.tail _ (List.Mem.tail _ (List.Mem.tail _ (List.Mem.tail _ (List.Mem.tail _ (List.Mem.head _)))))))) rfl
theorem k_1018 : Cond.fieldLink RX9 130 "SeaWatchesModel" "widths" "[I" ∈ tb := cm_5_5 (List.Mem.tail _ (List.Mem.tail _ (List.Mem.tail _ (List.Mem.tail _ (List.Mem.tail _ (List.Mem.tail _ (List.Mem.tail _ (List.Mem.tail _ (List.Mem.head _))))))))) rfl
theorem k_1019 : Cond.fieldLink RX9 406 "SeaWatchesModel" "listed" "I" ∈ tb := cm_5_5 (List.Mem.tail _ (List.Mem.tail _ (List.Mem.tail _ (List.Mem.tail _ (List.Mem.tail _ (List.Mem.tail _ (List.Mem.tail _ (List.Mem.tail _ (List.Mem.tail _ (List.Mem.head _)))))))))) rfl
theorem k_1020 : Cond.fieldLink RX9 133 "SeaWatchesModel" "list" "[I" ∈ tb := cm_5_6 (List.Mem.head _) rfl
theorem k_1021 : Cond.fieldLink RX9 136 "SeaWatchesModel" "dealt" "[I" ∈ tb := cm_5_6 (List.Mem.tail _ (List.Mem.head _)) rfl
theorem k_1022 : Cond.fieldLink RX9 415 "SeaWatchesModel" "dealtMany" "I" ∈ tb := cm_5_6 (List.Mem.tail _ (List.Mem.tail _ (List.Mem.head _))) rfl
theorem k_1023 : Cond.fieldLink RX9 139 "SeaWatchesModel" "way" "[I" ∈ tb := cm_5_6 (List.Mem.tail _ (List.Mem.tail _ (List.Mem.tail _ (List.Mem.head _)))) rfl
theorem k_1024 : Cond.fieldLink RX9 142 "SeaWatchesModel" "dealDays" "[I" ∈ tb := cm_5_6 (List.Mem.tail _ (List.Mem.tail _ (List.Mem.tail _ (List.Mem.tail _ (List.Mem.head _))))) rfl
theorem k_1025 : Cond.fieldLink RX9 145 "SeaWatchesModel" "given" "[I" ∈ tb := cm_5_6 (List.Mem.tail _ (List.Mem.tail _ (List.Mem.tail _ (List.Mem.tail _ (List.Mem.tail _ (List.Mem.head _)))))) rfl
theorem k_1163 : Cond.arrayClass .boolean ∈ tb := cm_5_20 (List.Mem.tail _ (List.Mem.tail _ (List.Mem.tail _ (List.Mem.head _)))) rfl
theorem k_1164 : Cond.methodLink R_law 17 yX9_days ∈ tb := cm_5_20 (List.Mem.tail _ (List.Mem.tail _ (List.Mem.tail _ (List.Mem.tail _ (List.Mem.head _))))) rfl
theorem k_1165 : Cond.instanceMethod yX9_days ∈ tb := cm_5_20 (List.Mem.tail _ (List.Mem.tail _ (List.Mem.tail _ (List.Mem.tail _ (List.Mem.tail _ (List.Mem.head _)))))) rfl
theorem k_1166 : Cond.selects RX9 yX9_days yX9_days ∈ tb := cm_5_20 (List.Mem.tail _ (List.Mem.tail _ (List.Mem.tail _ (List.Mem.tail _ (List.Mem.tail _ (List.Mem.tail _ (List.Mem.head _))))))) rfl
theorem k_1167 : Cond.code yX9_days cX9_days 4 (some .int) ∈ tb := cm_5_20 (List.Mem.tail _ (List.Mem.tail _ (List.Mem.tail _ (List.Mem.tail _ (List.Mem.tail _ (List.Mem.tail _ (List.Mem.tail _ (List.Mem.head _)))))))) rfl
theorem k_1168 : Cond.methodLink RX9 148 yX9_in ∈ tb := cm_5_20 (List.Mem.tail _ (List.Mem.tail _ (List.Mem.tail _ (List.Mem.tail _ (List.Mem.tail _ (List.Mem.tail _ (List.Mem.tail _ (List.Mem.tail _ (List.Mem.head _))))))))) rfl
theorem k_1169 : Cond.static yX9_in ∈ tb := cm_5_20 (List.Mem.tail _ (List.Mem.tail _ (List.Mem.tail _ (List.Mem.tail _ (List.Mem.tail _ (List.Mem.tail _ (List.Mem.tail _ (List.Mem.tail _ (List.Mem.tail _ (List.Mem.head _)))))))))) rfl
theorem k_1170 : Cond.code yX9_in cX9_in 3 (some .boolean) ∈ tb := cm_5_21 (List.Mem.head _) rfl
theorem k_1171 : Cond.methodLink R_law 22 yX9_warmth ∈ tb := cm_5_21 (List.Mem.tail _ (List.Mem.head _)) rfl
theorem k_1172 : Cond.instanceMethod yX9_warmth ∈ tb := cm_5_21 (List.Mem.tail _ (List.Mem.tail _ (List.Mem.head _))) rfl
theorem k_1173 : Cond.selects RX9 yX9_warmth yX9_warmth ∈ tb := cm_5_21 (List.Mem.tail _ (List.Mem.tail _ (List.Mem.tail _ (List.Mem.head _)))) rfl
theorem k_1174 : Cond.code yX9_warmth cX9_warmth 3 (some .int) ∈ tb := cm_5_21 (List.Mem.tail _ (List.Mem.tail _ (List.Mem.tail _ (List.Mem.tail _ (List.Mem.head _))))) rfl
theorem k_1175 : Cond.methodLink RX9 159 yX9_isDay ∈ tb := cm_5_21 (List.Mem.tail _ (List.Mem.tail _ (List.Mem.tail _ (List.Mem.tail _ (List.Mem.tail _ (List.Mem.head _)))))) rfl
theorem k_1176 : Cond.static yX9_isDay ∈ tb := cm_5_21 (List.Mem.tail _ (List.Mem.tail _ (List.Mem.tail _ (List.Mem.tail _ (List.Mem.tail _ (List.Mem.tail _ (List.Mem.head _))))))) rfl
theorem k_1177 : Cond.code yX9_isDay cX9_isDay 1 (some .boolean) ∈ tb := cm_5_21 (List.Mem.tail _ (List.Mem.tail _ (List.Mem.tail _ (List.Mem.tail _ (List.Mem.tail _ (List.Mem.tail _ (List.Mem.tail _ (List.Mem.head _)))))))) rfl
theorem k_1178 : Cond.methodLink R_law 27 yX9_put ∈ tb := cm_5_21 (List.Mem.tail _ (List.Mem.tail _ (List.Mem.tail _ (List.Mem.tail _ (List.Mem.tail _ (List.Mem.tail _ (List.Mem.tail _ (List.Mem.tail _ (List.Mem.head _))))))))) rfl
theorem k_1179 : Cond.instanceMethod yX9_put ∈ tb := cm_5_21 (List.Mem.tail _ (List.Mem.tail _ (List.Mem.tail _ (List.Mem.tail _ (List.Mem.tail _ (List.Mem.tail _ (List.Mem.tail _ (List.Mem.tail _ (List.Mem.tail _ (List.Mem.head _)))))))))) rfl
theorem k_1180 : Cond.selects RX9 yX9_put yX9_put ∈ tb := cm_5_22 (List.Mem.head _) rfl
theorem k_1181 : Cond.code yX9_put cX9_put 5 (some .int) ∈ tb := cm_5_22 (List.Mem.tail _ (List.Mem.head _)) rfl
theorem k_1182 : Cond.methodLink RX9 152 yX9_isPlace ∈ tb := cm_5_22 (List.Mem.tail _ (List.Mem.tail _ (List.Mem.head _))) rfl
theorem k_1183 : Cond.static yX9_isPlace ∈ tb := cm_5_22 (List.Mem.tail _ (List.Mem.tail _ (List.Mem.tail _ (List.Mem.head _)))) rfl
theorem k_1184 : Cond.code yX9_isPlace cX9_isPlace 1 (some .boolean) ∈ tb := cm_5_22 (List.Mem.tail _ (List.Mem.tail _ (List.Mem.tail _ (List.Mem.tail _ (List.Mem.head _))))) rfl
theorem k_1185 : Cond.methodLink R_law 31 yX9_take ∈ tb := cm_5_22 (List.Mem.tail _ (List.Mem.tail _ (List.Mem.tail _ (List.Mem.tail _ (List.Mem.tail _ (List.Mem.head _)))))) rfl
theorem k_1186 : Cond.instanceMethod yX9_take ∈ tb := cm_5_22 (List.Mem.tail _ (List.Mem.tail _ (List.Mem.tail _ (List.Mem.tail _ (List.Mem.tail _ (List.Mem.tail _ (List.Mem.head _))))))) rfl
theorem k_1187 : Cond.selects RX9 yX9_take yX9_take ∈ tb := cm_5_22 (List.Mem.tail _ (List.Mem.tail _ (List.Mem.tail _ (List.Mem.tail _ (List.Mem.tail _ (List.Mem.tail _ (List.Mem.tail _ (List.Mem.head _)))))))) rfl
theorem k_1188 : Cond.code yX9_take cX9_take 2 (some .int) ∈ tb := cm_5_22 (List.Mem.tail _ (List.Mem.tail _ (List.Mem.tail _ (List.Mem.tail _ (List.Mem.tail _ (List.Mem.tail _ (List.Mem.tail _ (List.Mem.tail _ (List.Mem.head _))))))))) rfl
theorem k_1189 : Cond.methodLink RX9 162 yX9_isWatch ∈ tb := cm_5_22 (List.Mem.tail _ (List.Mem.tail _ (List.Mem.tail _ (List.Mem.tail _ (List.Mem.tail _ (List.Mem.tail _ (List.Mem.tail _ (List.Mem.tail _ (List.Mem.tail _ (List.Mem.head _)))))))))) rfl
theorem k_1191 : Cond.instanceMethod yX9_isWatch ∈ tb := cm_5_23 (List.Mem.tail _ (List.Mem.head _)) rfl
theorem k_1192 : Cond.code yX9_isWatch cX9_isWatch 2 (some .boolean) ∈ tb := cm_5_23 (List.Mem.tail _ (List.Mem.tail _ (List.Mem.head _))) rfl
theorem k_1193 : Cond.methodLink RX9 165 yX9_holderNow ∈ tb := cm_5_23 (List.Mem.tail _ (List.Mem.tail _ (List.Mem.tail _ (List.Mem.head _)))) rfl
theorem k_1195 : Cond.instanceMethod yX9_holderNow ∈ tb := cm_5_23 (List.Mem.tail _ (List.Mem.tail _ (List.Mem.tail _ (List.Mem.tail _ (List.Mem.tail _ (List.Mem.head _)))))) rfl
theorem k_1196 : Cond.code yX9_holderNow cX9_holderNow 2 (some .int) ∈ tb := cm_5_23 (List.Mem.tail _ (List.Mem.tail _ (List.Mem.tail _ (List.Mem.tail _ (List.Mem.tail _ (List.Mem.tail _ (List.Mem.head _))))))) rfl
theorem k_1197 : Cond.methodLink R_law 35 yX9_holds ∈ tb := cm_5_23 (List.Mem.tail _ (List.Mem.tail _ (List.Mem.tail _ (List.Mem.tail _ (List.Mem.tail _ (List.Mem.tail _ (List.Mem.tail _ (List.Mem.head _)))))))) rfl
theorem k_1198 : Cond.instanceMethod yX9_holds ∈ tb := cm_5_23 (List.Mem.tail _ (List.Mem.tail _ (List.Mem.tail _ (List.Mem.tail _ (List.Mem.tail _ (List.Mem.tail _ (List.Mem.tail _ (List.Mem.tail _ (List.Mem.head _))))))))) rfl
theorem k_1199 : Cond.selects RX9 yX9_holds yX9_holds ∈ tb := cm_5_23 (List.Mem.tail _ (List.Mem.tail _ (List.Mem.tail _ (List.Mem.tail _ (List.Mem.tail _ (List.Mem.tail _ (List.Mem.tail _ (List.Mem.tail _ (List.Mem.tail _ (List.Mem.head _)))))))))) rfl
theorem k_1200 : Cond.code yX9_holds cX9_holds 2 (some .int) ∈ tb := cm_6_0 (List.Mem.head _) rfl
theorem k_1201 : Cond.methodLink R_law 39 yX9_read ∈ tb := cm_6_0 (List.Mem.tail _ (List.Mem.head _)) rfl
theorem k_1202 : Cond.instanceMethod yX9_read ∈ tb := cm_6_0 (List.Mem.tail _ (List.Mem.tail _ (List.Mem.head _))) rfl
theorem k_1203 : Cond.selects RX9 yX9_read yX9_read ∈ tb := cm_6_0 (List.Mem.tail _ (List.Mem.tail _ (List.Mem.tail _ (List.Mem.head _)))) rfl
theorem k_1204 : Cond.code yX9_read cX9_read 2 (some .int) ∈ tb := cm_6_0 (List.Mem.tail _ (List.Mem.tail _ (List.Mem.tail _ (List.Mem.tail _ (List.Mem.head _))))) rfl
theorem k_1205 : Cond.constant RX9 169 (-2000000000) ∈ tb := cm_6_0 (List.Mem.tail _ (List.Mem.tail _ (List.Mem.tail _ (List.Mem.tail _ (List.Mem.tail _ (List.Mem.head _)))))) rfl
theorem k_1206 : Cond.methodLink R_law 44 yX9_compare ∈ tb := cm_6_0 (List.Mem.tail _ (List.Mem.tail _ (List.Mem.tail _ (List.Mem.tail _ (List.Mem.tail _ (List.Mem.tail _ (List.Mem.head _))))))) rfl
theorem k_1207 : Cond.instanceMethod yX9_compare ∈ tb := cm_6_0 (List.Mem.tail _ (List.Mem.tail _ (List.Mem.tail _ (List.Mem.tail _ (List.Mem.tail _ (List.Mem.tail _ (List.Mem.tail _ (List.Mem.head _)))))))) rfl
theorem k_1208 : Cond.selects RX9 yX9_compare yX9_compare ∈ tb := cm_6_0 (List.Mem.tail _ (List.Mem.tail _ (List.Mem.tail _ (List.Mem.tail _ (List.Mem.tail _ (List.Mem.tail _ (List.Mem.tail _ (List.Mem.tail _ (List.Mem.head _))))))))) rfl
theorem k_1209 : Cond.code yX9_compare cX9_compare 7 (some .int) ∈ tb := cm_6_0 (List.Mem.tail _ (List.Mem.tail _ (List.Mem.tail _ (List.Mem.tail _ (List.Mem.tail _ (List.Mem.tail _ (List.Mem.tail _ (List.Mem.tail _ (List.Mem.tail _ (List.Mem.head _)))))))))) rfl
theorem k_1210 : Cond.constant RX9 170 (-100000) ∈ tb := cm_6_1 (List.Mem.head _) rfl
theorem k_1211 : Cond.constant RX9 171 100000 ∈ tb := cm_6_1 (List.Mem.tail _ (List.Mem.head _)) rfl
theorem k_1212 : Cond.methodLink RX9 172 yX9_watchAt ∈ tb := cm_6_1 (List.Mem.tail _ (List.Mem.tail _ (List.Mem.head _))) rfl
theorem k_1214 : Cond.instanceMethod yX9_watchAt ∈ tb := cm_6_1 (List.Mem.tail _ (List.Mem.tail _ (List.Mem.tail _ (List.Mem.tail _ (List.Mem.head _))))) rfl
theorem k_1215 : Cond.code yX9_watchAt cX9_watchAt 2 (some .int) ∈ tb := cm_6_1 (List.Mem.tail _ (List.Mem.tail _ (List.Mem.tail _ (List.Mem.tail _ (List.Mem.tail _ (List.Mem.head _)))))) rfl
theorem k_1216 : Cond.methodLink R_law 48 yX9_error ∈ tb := cm_6_1 (List.Mem.tail _ (List.Mem.tail _ (List.Mem.tail _ (List.Mem.tail _ (List.Mem.tail _ (List.Mem.tail _ (List.Mem.head _))))))) rfl
theorem k_1217 : Cond.instanceMethod yX9_error ∈ tb := cm_6_1 (List.Mem.tail _ (List.Mem.tail _ (List.Mem.tail _ (List.Mem.tail _ (List.Mem.tail _ (List.Mem.tail _ (List.Mem.tail _ (List.Mem.head _)))))))) rfl
theorem k_1218 : Cond.selects RX9 yX9_error yX9_error ∈ tb := cm_6_1 (List.Mem.tail _ (List.Mem.tail _ (List.Mem.tail _ (List.Mem.tail _ (List.Mem.tail _ (List.Mem.tail _ (List.Mem.tail _ (List.Mem.tail _ (List.Mem.head _))))))))) rfl
theorem k_1219 : Cond.code yX9_error cX9_error 4 (some .int) ∈ tb := cm_6_1 (List.Mem.tail _ (List.Mem.tail _ (List.Mem.tail _ (List.Mem.tail _ (List.Mem.tail _ (List.Mem.tail _ (List.Mem.tail _ (List.Mem.tail _ (List.Mem.tail _ (List.Mem.head _)))))))))) rfl
theorem k_1220 : Cond.methodLink RX9 185 yX9_isKnown ∈ tb := cm_6_2 (List.Mem.head _) rfl
theorem k_1221 : Cond.static yX9_isKnown ∈ tb := cm_6_2 (List.Mem.tail _ (List.Mem.head _)) rfl
theorem k_1222 : Cond.code yX9_isKnown cX9_isKnown 1 (some .boolean) ∈ tb := cm_6_2 (List.Mem.tail _ (List.Mem.tail _ (List.Mem.head _))) rfl
theorem k_1223 : Cond.methodLink RX9 178 yX9_errorOf ∈ tb := cm_6_2 (List.Mem.tail _ (List.Mem.tail _ (List.Mem.tail _ (List.Mem.head _)))) rfl
theorem k_1225 : Cond.instanceMethod yX9_errorOf ∈ tb := cm_6_2 (List.Mem.tail _ (List.Mem.tail _ (List.Mem.tail _ (List.Mem.tail _ (List.Mem.tail _ (List.Mem.head _)))))) rfl
theorem k_1226 : Cond.code yX9_errorOf cX9_errorOf 7 (some .int) ∈ tb := cm_6_2 (List.Mem.tail _ (List.Mem.tail _ (List.Mem.tail _ (List.Mem.tail _ (List.Mem.tail _ (List.Mem.tail _ (List.Mem.head _))))))) rfl
theorem k_1227 : Cond.methodLink R_law 52 yX9_rate ∈ tb := cm_6_2 (List.Mem.tail _ (List.Mem.tail _ (List.Mem.tail _ (List.Mem.tail _ (List.Mem.tail _ (List.Mem.tail _ (List.Mem.tail _ (List.Mem.head _)))))))) rfl
theorem k_1228 : Cond.instanceMethod yX9_rate ∈ tb := cm_6_2 (List.Mem.tail _ (List.Mem.tail _ (List.Mem.tail _ (List.Mem.tail _ (List.Mem.tail _ (List.Mem.tail _ (List.Mem.tail _ (List.Mem.tail _ (List.Mem.head _))))))))) rfl
theorem k_1229 : Cond.selects RX9 yX9_rate yX9_rate ∈ tb := cm_6_2 (List.Mem.tail _ (List.Mem.tail _ (List.Mem.tail _ (List.Mem.tail _ (List.Mem.tail _ (List.Mem.tail _ (List.Mem.tail _ (List.Mem.tail _ (List.Mem.tail _ (List.Mem.head _)))))))))) rfl
theorem k_1230 : Cond.code yX9_rate cX9_rate 4 (some .int) ∈ tb := cm_6_3 (List.Mem.head _) rfl
theorem k_1231 : Cond.methodLink RX9 188 yX9_rateOf ∈ tb := cm_6_3 (List.Mem.tail _ (List.Mem.head _)) rfl
theorem k_1233 : Cond.instanceMethod yX9_rateOf ∈ tb := cm_6_3 (List.Mem.tail _ (List.Mem.tail _ (List.Mem.tail _ (List.Mem.head _)))) rfl
theorem k_1234 : Cond.code yX9_rateOf cX9_rateOf 7 (some .int) ∈ tb := cm_6_3 (List.Mem.tail _ (List.Mem.tail _ (List.Mem.tail _ (List.Mem.tail _ (List.Mem.head _))))) rfl
theorem k_1235 : Cond.methodLink RX9 182 yX9_size ∈ tb := cm_6_3 (List.Mem.tail _ (List.Mem.tail _ (List.Mem.tail _ (List.Mem.tail _ (List.Mem.tail _ (List.Mem.head _)))))) rfl
theorem k_1236 : Cond.static yX9_size ∈ tb := cm_6_3 (List.Mem.tail _ (List.Mem.tail _ (List.Mem.tail _ (List.Mem.tail _ (List.Mem.tail _ (List.Mem.tail _ (List.Mem.head _))))))) rfl
theorem k_1237 : Cond.code yX9_size cX9_size 1 (some .int) ∈ tb := cm_6_3 (List.Mem.tail _ (List.Mem.tail _ (List.Mem.tail _ (List.Mem.tail _ (List.Mem.tail _ (List.Mem.tail _ (List.Mem.tail _ (List.Mem.head _)))))))) rfl
theorem k_1238 : Cond.methodLink R_law 56 yX9_repair ∈ tb := cm_6_3 (List.Mem.tail _ (List.Mem.tail _ (List.Mem.tail _ (List.Mem.tail _ (List.Mem.tail _ (List.Mem.tail _ (List.Mem.tail _ (List.Mem.tail _ (List.Mem.head _))))))))) rfl
theorem k_1239 : Cond.instanceMethod yX9_repair ∈ tb := cm_6_3 (List.Mem.tail _ (List.Mem.tail _ (List.Mem.tail _ (List.Mem.tail _ (List.Mem.tail _ (List.Mem.tail _ (List.Mem.tail _ (List.Mem.tail _ (List.Mem.tail _ (List.Mem.head _)))))))))) rfl
theorem k_1240 : Cond.selects RX9 yX9_repair yX9_repair ∈ tb := cm_6_4 (List.Mem.head _) rfl
theorem k_1241 : Cond.code yX9_repair cX9_repair 5 (some .int) ∈ tb := cm_6_4 (List.Mem.tail _ (List.Mem.head _)) rfl
theorem k_1242 : Cond.methodLink R_law 60 yX9_late ∈ tb := cm_6_4 (List.Mem.tail _ (List.Mem.tail _ (List.Mem.head _))) rfl
theorem k_1243 : Cond.instanceMethod yX9_late ∈ tb := cm_6_4 (List.Mem.tail _ (List.Mem.tail _ (List.Mem.tail _ (List.Mem.head _)))) rfl
theorem k_1244 : Cond.selects RX9 yX9_late yX9_late ∈ tb := cm_6_4 (List.Mem.tail _ (List.Mem.tail _ (List.Mem.tail _ (List.Mem.tail _ (List.Mem.head _))))) rfl
theorem k_1245 : Cond.code yX9_late cX9_late 5 (some .int) ∈ tb := cm_6_4 (List.Mem.tail _ (List.Mem.tail _ (List.Mem.tail _ (List.Mem.tail _ (List.Mem.tail _ (List.Mem.head _)))))) rfl
theorem k_1246 : Cond.methodLink R_law 64 yX9_age ∈ tb := cm_6_4 (List.Mem.tail _ (List.Mem.tail _ (List.Mem.tail _ (List.Mem.tail _ (List.Mem.tail _ (List.Mem.tail _ (List.Mem.head _))))))) rfl
theorem k_1247 : Cond.instanceMethod yX9_age ∈ tb := cm_6_4 (List.Mem.tail _ (List.Mem.tail _ (List.Mem.tail _ (List.Mem.tail _ (List.Mem.tail _ (List.Mem.tail _ (List.Mem.tail _ (List.Mem.head _)))))))) rfl
theorem k_1248 : Cond.selects RX9 yX9_age yX9_age ∈ tb := cm_6_4 (List.Mem.tail _ (List.Mem.tail _ (List.Mem.tail _ (List.Mem.tail _ (List.Mem.tail _ (List.Mem.tail _ (List.Mem.tail _ (List.Mem.tail _ (List.Mem.head _))))))))) rfl
theorem k_1249 : Cond.code yX9_age cX9_age 4 (some .int) ∈ tb := cm_6_4 (List.Mem.tail _ (List.Mem.tail _ (List.Mem.tail _ (List.Mem.tail _ (List.Mem.tail _ (List.Mem.tail _ (List.Mem.tail _ (List.Mem.tail _ (List.Mem.tail _ (List.Mem.head _)))))))))) rfl
theorem k_1250 : Cond.methodLink RX9 191 yX9_ageOf ∈ tb := cm_6_5 (List.Mem.head _) rfl
theorem k_1252 : Cond.instanceMethod yX9_ageOf ∈ tb := cm_6_5 (List.Mem.tail _ (List.Mem.tail _ (List.Mem.head _))) rfl
theorem k_1253 : Cond.code yX9_ageOf cX9_ageOf 4 (some .int) ∈ tb := cm_6_5 (List.Mem.tail _ (List.Mem.tail _ (List.Mem.tail _ (List.Mem.head _)))) rfl
theorem k_1254 : Cond.methodLink R_law 68 yX9_off ∈ tb := cm_6_5 (List.Mem.tail _ (List.Mem.tail _ (List.Mem.tail _ (List.Mem.tail _ (List.Mem.head _))))) rfl
theorem k_1255 : Cond.instanceMethod yX9_off ∈ tb := cm_6_5 (List.Mem.tail _ (List.Mem.tail _ (List.Mem.tail _ (List.Mem.tail _ (List.Mem.tail _ (List.Mem.head _)))))) rfl
theorem k_1256 : Cond.selects RX9 yX9_off yX9_off ∈ tb := cm_6_5 (List.Mem.tail _ (List.Mem.tail _ (List.Mem.tail _ (List.Mem.tail _ (List.Mem.tail _ (List.Mem.tail _ (List.Mem.head _))))))) rfl
theorem k_1257 : Cond.code yX9_off cX9_off 5 (some .int) ∈ tb := cm_6_5 (List.Mem.tail _ (List.Mem.tail _ (List.Mem.tail _ (List.Mem.tail _ (List.Mem.tail _ (List.Mem.tail _ (List.Mem.tail _ (List.Mem.head _)))))))) rfl
theorem k_1258 : Cond.methodLink R_law 72 yX9_changed ∈ tb := cm_6_5 (List.Mem.tail _ (List.Mem.tail _ (List.Mem.tail _ (List.Mem.tail _ (List.Mem.tail _ (List.Mem.tail _ (List.Mem.tail _ (List.Mem.tail _ (List.Mem.head _))))))))) rfl
theorem k_1259 : Cond.instanceMethod yX9_changed ∈ tb := cm_6_5 (List.Mem.tail _ (List.Mem.tail _ (List.Mem.tail _ (List.Mem.tail _ (List.Mem.tail _ (List.Mem.tail _ (List.Mem.tail _ (List.Mem.tail _ (List.Mem.tail _ (List.Mem.head _)))))))))) rfl
theorem k_1260 : Cond.selects RX9 yX9_changed yX9_changed ∈ tb := cm_6_6 (List.Mem.head _) rfl
theorem k_1261 : Cond.code yX9_changed cX9_changed 8 (some .int) ∈ tb := cm_6_6 (List.Mem.tail _ (List.Mem.head _)) rfl
theorem k_1262 : Cond.methodLink RX9 195 yX9_areDays ∈ tb := cm_6_6 (List.Mem.tail _ (List.Mem.tail _ (List.Mem.head _))) rfl
theorem k_1263 : Cond.static yX9_areDays ∈ tb := cm_6_6 (List.Mem.tail _ (List.Mem.tail _ (List.Mem.tail _ (List.Mem.head _)))) rfl
theorem k_1264 : Cond.code yX9_areDays cX9_areDays 2 (some .boolean) ∈ tb := cm_6_6 (List.Mem.tail _ (List.Mem.tail _ (List.Mem.tail _ (List.Mem.tail _ (List.Mem.head _))))) rfl
theorem k_1265 : Cond.methodLink R_law 76 yX9_law ∈ tb := cm_6_6 (List.Mem.tail _ (List.Mem.tail _ (List.Mem.tail _ (List.Mem.tail _ (List.Mem.tail _ (List.Mem.head _)))))) rfl
theorem k_1266 : Cond.instanceMethod yX9_law ∈ tb := cm_6_6 (List.Mem.tail _ (List.Mem.tail _ (List.Mem.tail _ (List.Mem.tail _ (List.Mem.tail _ (List.Mem.tail _ (List.Mem.head _))))))) rfl
theorem k_1267 : Cond.selects RX9 yX9_law yX9_law ∈ tb := cm_6_6 (List.Mem.tail _ (List.Mem.tail _ (List.Mem.tail _ (List.Mem.tail _ (List.Mem.tail _ (List.Mem.tail _ (List.Mem.tail _ (List.Mem.head _)))))))) rfl
theorem k_1268 : Cond.code yX9_law cX9_law 5 (some .int) ∈ tb := cm_6_6 (List.Mem.tail _ (List.Mem.tail _ (List.Mem.tail _ (List.Mem.tail _ (List.Mem.tail _ (List.Mem.tail _ (List.Mem.tail _ (List.Mem.tail _ (List.Mem.head _))))))))) rfl
theorem k_1269 : Cond.methodLink RX9 242 yX9_asked ∈ tb := cm_6_6 (List.Mem.tail _ (List.Mem.tail _ (List.Mem.tail _ (List.Mem.tail _ (List.Mem.tail _ (List.Mem.tail _ (List.Mem.tail _ (List.Mem.tail _ (List.Mem.tail _ (List.Mem.head _)))))))))) rfl
theorem k_1271 : Cond.instanceMethod yX9_asked ∈ tb := cm_6_7 (List.Mem.tail _ (List.Mem.head _)) rfl
theorem k_1272 : Cond.code yX9_asked cX9_asked 4 (some .int) ∈ tb := cm_6_7 (List.Mem.tail _ (List.Mem.tail _ (List.Mem.head _))) rfl
theorem k_1273 : Cond.methodLink RX9 245 yX9_sumUp ∈ tb := cm_6_7 (List.Mem.tail _ (List.Mem.tail _ (List.Mem.tail _ (List.Mem.head _)))) rfl
theorem k_1275 : Cond.instanceMethod yX9_sumUp ∈ tb := cm_6_7 (List.Mem.tail _ (List.Mem.tail _ (List.Mem.tail _ (List.Mem.tail _ (List.Mem.tail _ (List.Mem.head _)))))) rfl
theorem k_1276 : Cond.code yX9_sumUp cX9_sumUp 11 none ∈ tb := cm_6_7 (List.Mem.tail _ (List.Mem.tail _ (List.Mem.tail _ (List.Mem.tail _ (List.Mem.tail _ (List.Mem.tail _ (List.Mem.head _))))))) rfl
theorem k_1277 : Cond.methodLink RX9 227 yX9_warmthOf ∈ tb := cm_6_7 (List.Mem.tail _ (List.Mem.tail _ (List.Mem.tail _ (List.Mem.tail _ (List.Mem.tail _ (List.Mem.tail _ (List.Mem.tail _ (List.Mem.head _)))))))) rfl
theorem k_1279 : Cond.instanceMethod yX9_warmthOf ∈ tb := cm_6_7 (List.Mem.tail _ (List.Mem.tail _ (List.Mem.tail _ (List.Mem.tail _ (List.Mem.tail _ (List.Mem.tail _ (List.Mem.tail _ (List.Mem.tail _ (List.Mem.tail _ (List.Mem.head _)))))))))) rfl
theorem k_1280 : Cond.code yX9_warmthOf cX9_warmthOf 3 (some .int) ∈ tb := cm_6_8 (List.Mem.head _) rfl
theorem k_1281 : Cond.constantLong RX9 230 (-2000000000) ∈ tb := cm_6_8 (List.Mem.tail _ (List.Mem.head _)) rfl
theorem k_1282 : Cond.constantLong RX9 232 (-1000) ∈ tb := cm_6_8 (List.Mem.tail _ (List.Mem.tail _ (List.Mem.head _))) rfl
theorem k_1283 : Cond.methodLink R_law 80 yX9_terms ∈ tb := cm_6_8 (List.Mem.tail _ (List.Mem.tail _ (List.Mem.tail _ (List.Mem.head _)))) rfl
theorem k_1284 : Cond.instanceMethod yX9_terms ∈ tb := cm_6_8 (List.Mem.tail _ (List.Mem.tail _ (List.Mem.tail _ (List.Mem.tail _ (List.Mem.head _))))) rfl
theorem k_1285 : Cond.selects RX9 yX9_terms yX9_terms ∈ tb := cm_6_8 (List.Mem.tail _ (List.Mem.tail _ (List.Mem.tail _ (List.Mem.tail _ (List.Mem.tail _ (List.Mem.head _)))))) rfl
theorem k_1286 : Cond.code yX9_terms cX9_terms 5 (some .int) ∈ tb := cm_6_8 (List.Mem.tail _ (List.Mem.tail _ (List.Mem.tail _ (List.Mem.tail _ (List.Mem.tail _ (List.Mem.tail _ (List.Mem.head _))))))) rfl
theorem k_1287 : Cond.methodLink RX9 249 yX9_termsNow ∈ tb := cm_6_8 (List.Mem.tail _ (List.Mem.tail _ (List.Mem.tail _ (List.Mem.tail _ (List.Mem.tail _ (List.Mem.tail _ (List.Mem.tail _ (List.Mem.head _)))))))) rfl
theorem k_1289 : Cond.instanceMethod yX9_termsNow ∈ tb := cm_6_8 (List.Mem.tail _ (List.Mem.tail _ (List.Mem.tail _ (List.Mem.tail _ (List.Mem.tail _ (List.Mem.tail _ (List.Mem.tail _ (List.Mem.tail _ (List.Mem.tail _ (List.Mem.head _)))))))))) rfl
theorem k_1290 : Cond.code yX9_termsNow cX9_termsNow 1 (some .int) ∈ tb := cm_6_9 (List.Mem.head _) rfl
theorem k_1291 : Cond.methodLink RX9 234 yX9_three ∈ tb := cm_6_9 (List.Mem.tail _ (List.Mem.head _)) rfl
theorem k_1293 : Cond.instanceMethod yX9_three ∈ tb := cm_6_9 (List.Mem.tail _ (List.Mem.tail _ (List.Mem.tail _ (List.Mem.head _)))) rfl
theorem k_1294 : Cond.code yX9_three cX9_three 1 (some .long) ∈ tb := cm_6_9 (List.Mem.tail _ (List.Mem.tail _ (List.Mem.tail _ (List.Mem.tail _ (List.Mem.head _))))) rfl
theorem k_1295 : Cond.methodLink RX9 238 yX9_two ∈ tb := cm_6_9 (List.Mem.tail _ (List.Mem.tail _ (List.Mem.tail _ (List.Mem.tail _ (List.Mem.tail _ (List.Mem.head _)))))) rfl
theorem k_1297 : Cond.instanceMethod yX9_two ∈ tb := cm_6_9 (List.Mem.tail _ (List.Mem.tail _ (List.Mem.tail _ (List.Mem.tail _ (List.Mem.tail _ (List.Mem.tail _ (List.Mem.tail _ (List.Mem.head _)))))))) rfl
theorem k_1298 : Cond.code yX9_two cX9_two 5 (some .long) ∈ tb := cm_6_9 (List.Mem.tail _ (List.Mem.tail _ (List.Mem.tail _ (List.Mem.tail _ (List.Mem.tail _ (List.Mem.tail _ (List.Mem.tail _ (List.Mem.tail _ (List.Mem.head _))))))))) rfl
theorem k_1299 : Cond.methodLink R_law 85 yX9_foretold ∈ tb := cm_6_9 (List.Mem.tail _ (List.Mem.tail _ (List.Mem.tail _ (List.Mem.tail _ (List.Mem.tail _ (List.Mem.tail _ (List.Mem.tail _ (List.Mem.tail _ (List.Mem.tail _ (List.Mem.head _)))))))))) rfl
theorem k_1300 : Cond.instanceMethod yX9_foretold ∈ tb := cm_6_10 (List.Mem.head _) rfl
theorem k_1301 : Cond.selects RX9 yX9_foretold yX9_foretold ∈ tb := cm_6_10 (List.Mem.tail _ (List.Mem.head _)) rfl
theorem k_1302 : Cond.code yX9_foretold cX9_foretold 10 (some .int) ∈ tb := cm_6_10 (List.Mem.tail _ (List.Mem.tail _ (List.Mem.head _))) rfl
theorem k_1303 : Cond.methodLink RX9 259 yX9_byThree ∈ tb := cm_6_10 (List.Mem.tail _ (List.Mem.tail _ (List.Mem.tail _ (List.Mem.head _)))) rfl
theorem k_1305 : Cond.instanceMethod yX9_byThree ∈ tb := cm_6_10 (List.Mem.tail _ (List.Mem.tail _ (List.Mem.tail _ (List.Mem.tail _ (List.Mem.tail _ (List.Mem.head _)))))) rfl
theorem k_1306 : Cond.code yX9_byThree cX9_byThree 11 none ∈ tb := cm_6_10 (List.Mem.tail _ (List.Mem.tail _ (List.Mem.tail _ (List.Mem.tail _ (List.Mem.tail _ (List.Mem.tail _ (List.Mem.head _))))))) rfl
theorem k_1307 : Cond.methodLink RX9 263 yX9_byTwo ∈ tb := cm_6_10 (List.Mem.tail _ (List.Mem.tail _ (List.Mem.tail _ (List.Mem.tail _ (List.Mem.tail _ (List.Mem.tail _ (List.Mem.tail _ (List.Mem.head _)))))))) rfl
theorem k_1309 : Cond.instanceMethod yX9_byTwo ∈ tb := cm_6_10 (List.Mem.tail _ (List.Mem.tail _ (List.Mem.tail _ (List.Mem.tail _ (List.Mem.tail _ (List.Mem.tail _ (List.Mem.tail _ (List.Mem.tail _ (List.Mem.tail _ (List.Mem.head _)))))))))) rfl
theorem k_1310 : Cond.code yX9_byTwo cX9_byTwo 9 none ∈ tb := cm_6_11 (List.Mem.head _) rfl
theorem k_1311 : Cond.methodLink RX9 267 yX9_floor ∈ tb := cm_6_11 (List.Mem.tail _ (List.Mem.head _)) rfl
theorem k_1312 : Cond.static yX9_floor ∈ tb := cm_6_11 (List.Mem.tail _ (List.Mem.tail _ (List.Mem.head _))) rfl
theorem k_1313 : Cond.code yX9_floor cX9_floor 4 (some .long) ∈ tb := cm_6_11 (List.Mem.tail _ (List.Mem.tail _ (List.Mem.tail _ (List.Mem.head _)))) rfl
theorem k_1314 : Cond.constantLong RX9 270 3000000 ∈ tb := cm_6_11 (List.Mem.tail _ (List.Mem.tail _ (List.Mem.tail _ (List.Mem.tail _ (List.Mem.head _))))) rfl
theorem k_1315 : Cond.constantLong RX9 272 (-3000000) ∈ tb := cm_6_11 (List.Mem.tail _ (List.Mem.tail _ (List.Mem.tail _ (List.Mem.tail _ (List.Mem.tail _ (List.Mem.head _)))))) rfl
theorem k_1316 : Cond.constantLong RX9 274 1000 ∈ tb := cm_6_11 (List.Mem.tail _ (List.Mem.tail _ (List.Mem.tail _ (List.Mem.tail _ (List.Mem.tail _ (List.Mem.tail _ (List.Mem.head _))))))) rfl
theorem k_1317 : Cond.constantLong RX9 276 2000000000 ∈ tb := cm_6_11 (List.Mem.tail _ (List.Mem.tail _ (List.Mem.tail _ (List.Mem.tail _ (List.Mem.tail _ (List.Mem.tail _ (List.Mem.tail _ (List.Mem.head _)))))))) rfl
theorem k_1318 : Cond.methodLink R_law 89 yX9_jump ∈ tb := cm_6_11 (List.Mem.tail _ (List.Mem.tail _ (List.Mem.tail _ (List.Mem.tail _ (List.Mem.tail _ (List.Mem.tail _ (List.Mem.tail _ (List.Mem.tail _ (List.Mem.head _))))))))) rfl
theorem k_1319 : Cond.instanceMethod yX9_jump ∈ tb := cm_6_11 (List.Mem.tail _ (List.Mem.tail _ (List.Mem.tail _ (List.Mem.tail _ (List.Mem.tail _ (List.Mem.tail _ (List.Mem.tail _ (List.Mem.tail _ (List.Mem.tail _ (List.Mem.head _)))))))))) rfl
theorem k_1320 : Cond.selects RX9 yX9_jump yX9_jump ∈ tb := cm_6_12 (List.Mem.head _) rfl
theorem k_1321 : Cond.code yX9_jump cX9_jump 10 (some .int) ∈ tb := cm_6_12 (List.Mem.tail _ (List.Mem.head _)) rfl
theorem k_1322 : Cond.methodLink RX9 281 yX9_findRates ∈ tb := cm_6_12 (List.Mem.tail _ (List.Mem.tail _ (List.Mem.head _))) rfl
theorem k_1324 : Cond.instanceMethod yX9_findRates ∈ tb := cm_6_12 (List.Mem.tail _ (List.Mem.tail _ (List.Mem.tail _ (List.Mem.tail _ (List.Mem.head _))))) rfl
theorem k_1325 : Cond.code yX9_findRates cX9_findRates 7 none ∈ tb := cm_6_12 (List.Mem.tail _ (List.Mem.tail _ (List.Mem.tail _ (List.Mem.tail _ (List.Mem.tail _ (List.Mem.head _)))))) rfl
theorem k_1326 : Cond.methodLink R_law 93 yX9_feed ∈ tb := cm_6_12 (List.Mem.tail _ (List.Mem.tail _ (List.Mem.tail _ (List.Mem.tail _ (List.Mem.tail _ (List.Mem.tail _ (List.Mem.head _))))))) rfl
theorem k_1327 : Cond.instanceMethod yX9_feed ∈ tb := cm_6_12 (List.Mem.tail _ (List.Mem.tail _ (List.Mem.tail _ (List.Mem.tail _ (List.Mem.tail _ (List.Mem.tail _ (List.Mem.tail _ (List.Mem.head _)))))))) rfl
theorem k_1328 : Cond.selects RX9 yX9_feed yX9_feed ∈ tb := cm_6_12 (List.Mem.tail _ (List.Mem.tail _ (List.Mem.tail _ (List.Mem.tail _ (List.Mem.tail _ (List.Mem.tail _ (List.Mem.tail _ (List.Mem.tail _ (List.Mem.head _))))))))) rfl
theorem k_1329 : Cond.code yX9_feed cX9_feed 4 (some .int) ∈ tb := cm_6_12 (List.Mem.tail _ (List.Mem.tail _ (List.Mem.tail _ (List.Mem.tail _ (List.Mem.tail _ (List.Mem.tail _ (List.Mem.tail _ (List.Mem.tail _ (List.Mem.tail _ (List.Mem.head _)))))))))) rfl
theorem k_1330 : Cond.methodLink R_law 97 yX9_rule ∈ tb := cm_6_13 (List.Mem.head _) rfl
theorem k_1331 : Cond.instanceMethod yX9_rule ∈ tb := cm_6_13 (List.Mem.tail _ (List.Mem.head _)) rfl
theorem k_1332 : Cond.selects RX9 yX9_rule yX9_rule ∈ tb := cm_6_13 (List.Mem.tail _ (List.Mem.tail _ (List.Mem.head _))) rfl
theorem k_1333 : Cond.code yX9_rule cX9_rule 4 (some .int) ∈ tb := cm_6_13 (List.Mem.tail _ (List.Mem.tail _ (List.Mem.tail _ (List.Mem.head _)))) rfl
theorem k_1334 : Cond.methodLink RX9 371 yX9_readRule ∈ tb := cm_6_13 (List.Mem.tail _ (List.Mem.tail _ (List.Mem.tail _ (List.Mem.tail _ (List.Mem.head _))))) rfl
theorem k_1336 : Cond.instanceMethod yX9_readRule ∈ tb := cm_6_13 (List.Mem.tail _ (List.Mem.tail _ (List.Mem.tail _ (List.Mem.tail _ (List.Mem.tail _ (List.Mem.tail _ (List.Mem.head _))))))) rfl
theorem k_1337 : Cond.code yX9_readRule cX9_readRule 5 (some .int) ∈ tb := cm_6_13 (List.Mem.tail _ (List.Mem.tail _ (List.Mem.tail _ (List.Mem.tail _ (List.Mem.tail _ (List.Mem.tail _ (List.Mem.tail _ (List.Mem.head _)))))))) rfl
theorem k_1338 : Cond.methodLink RX9 361 yX9_advance ∈ tb := cm_6_13 (List.Mem.tail _ (List.Mem.tail _ (List.Mem.tail _ (List.Mem.tail _ (List.Mem.tail _ (List.Mem.tail _ (List.Mem.tail _ (List.Mem.tail _ (List.Mem.head _))))))))) rfl
theorem k_1340 : Cond.instanceMethod yX9_advance ∈ tb := cm_6_14 (List.Mem.head _) rfl
theorem k_1341 : Cond.code yX9_advance cX9_advance 6 none ∈ tb := cm_6_14 (List.Mem.tail _ (List.Mem.head _)) rfl
theorem k_1342 : Cond.methodLink RX9 296 yX9_isLetter ∈ tb := cm_6_14 (List.Mem.tail _ (List.Mem.tail _ (List.Mem.head _))) rfl
theorem k_1343 : Cond.static yX9_isLetter ∈ tb := cm_6_14 (List.Mem.tail _ (List.Mem.tail _ (List.Mem.tail _ (List.Mem.head _)))) rfl
theorem k_1344 : Cond.code yX9_isLetter cX9_isLetter 1 (some .boolean) ∈ tb := cm_6_14 (List.Mem.tail _ (List.Mem.tail _ (List.Mem.tail _ (List.Mem.tail _ (List.Mem.head _))))) rfl
theorem k_1345 : Cond.constantLong RX9 299 27 ∈ tb := cm_6_14 (List.Mem.tail _ (List.Mem.tail _ (List.Mem.tail _ (List.Mem.tail _ (List.Mem.tail _ (List.Mem.head _)))))) rfl
theorem k_1346 : Cond.constantLong RX9 301 96 ∈ tb := cm_6_14 (List.Mem.tail _ (List.Mem.tail _ (List.Mem.tail _ (List.Mem.tail _ (List.Mem.tail _ (List.Mem.tail _ (List.Mem.head _))))))) rfl
theorem k_1347 : Cond.methodLink RX9 303 yX9_wordOf ∈ tb := cm_6_14 (List.Mem.tail _ (List.Mem.tail _ (List.Mem.tail _ (List.Mem.tail _ (List.Mem.tail _ (List.Mem.tail _ (List.Mem.tail _ (List.Mem.head _)))))))) rfl
theorem k_1348 : Cond.static yX9_wordOf ∈ tb := cm_6_14 (List.Mem.tail _ (List.Mem.tail _ (List.Mem.tail _ (List.Mem.tail _ (List.Mem.tail _ (List.Mem.tail _ (List.Mem.tail _ (List.Mem.tail _ (List.Mem.head _))))))))) rfl
theorem k_1349 : Cond.code yX9_wordOf cX9_wordOf 3 (some .int) ∈ tb := cm_6_14 (List.Mem.tail _ (List.Mem.tail _ (List.Mem.tail _ (List.Mem.tail _ (List.Mem.tail _ (List.Mem.tail _ (List.Mem.tail _ (List.Mem.tail _ (List.Mem.tail _ (List.Mem.head _)))))))))) rfl
theorem k_1350 : Cond.constantLong RX9 316 423 ∈ tb := cm_6_15 (List.Mem.head _) rfl
theorem k_1351 : Cond.constantLong RX9 318 1111 ∈ tb := cm_6_15 (List.Mem.tail _ (List.Mem.head _)) rfl
theorem k_1352 : Cond.constantLong RX9 320 10631 ∈ tb := cm_6_15 (List.Mem.tail _ (List.Mem.tail _ (List.Mem.head _))) rfl
theorem k_1353 : Cond.constantLong RX9 322 802 ∈ tb := cm_6_15 (List.Mem.tail _ (List.Mem.tail _ (List.Mem.tail _ (List.Mem.head _)))) rfl
theorem k_1354 : Cond.constantLong RX9 324 80155 ∈ tb := cm_6_15 (List.Mem.tail _ (List.Mem.tail _ (List.Mem.tail _ (List.Mem.tail _ (List.Mem.head _))))) rfl
theorem k_1355 : Cond.constantLong RX9 326 6476969 ∈ tb := cm_6_15 (List.Mem.tail _ (List.Mem.tail _ (List.Mem.tail _ (List.Mem.tail _ (List.Mem.tail _ (List.Mem.head _)))))) rfl
theorem k_1356 : Cond.constantLong RX9 328 267347 ∈ tb := cm_6_15 (List.Mem.tail _ (List.Mem.tail _ (List.Mem.tail _ (List.Mem.tail _ (List.Mem.tail _ (List.Mem.tail _ (List.Mem.head _))))))) rfl
theorem k_1357 : Cond.constantLong RX9 330 385682 ∈ tb := cm_6_15 (List.Mem.tail _ (List.Mem.tail _ (List.Mem.tail _ (List.Mem.tail _ (List.Mem.tail _ (List.Mem.tail _ (List.Mem.tail _ (List.Mem.head _)))))))) rfl
theorem k_1358 : Cond.constantLong RX9 332 138961 ∈ tb := cm_6_15 (List.Mem.tail _ (List.Mem.tail _ (List.Mem.tail _ (List.Mem.tail _ (List.Mem.tail _ (List.Mem.tail _ (List.Mem.tail _ (List.Mem.tail _ (List.Mem.head _))))))))) rfl
theorem k_1359 : Cond.constantLong RX9 334 212506 ∈ tb := cm_6_15 (List.Mem.tail _ (List.Mem.tail _ (List.Mem.tail _ (List.Mem.tail _ (List.Mem.tail _ (List.Mem.tail _ (List.Mem.tail _ (List.Mem.tail _ (List.Mem.tail _ (List.Mem.head _)))))))))) rfl
theorem k_1360 : Cond.constantLong RX9 336 2486801 ∈ tb := cm_6_16 (List.Mem.head _) rfl
theorem k_1361 : Cond.constantLong RX9 338 14431 ∈ tb := cm_6_16 (List.Mem.tail _ (List.Mem.head _)) rfl
theorem k_1362 : Cond.constantLong RX9 340 453937 ∈ tb := cm_6_16 (List.Mem.tail _ (List.Mem.tail _ (List.Mem.head _))) rfl
theorem k_1363 : Cond.constantLong RX9 342 11103 ∈ tb := cm_6_16 (List.Mem.tail _ (List.Mem.tail _ (List.Mem.tail _ (List.Mem.head _)))) rfl
theorem k_1364 : Cond.constantLong RX9 344 2436392 ∈ tb := cm_6_16 (List.Mem.tail _ (List.Mem.tail _ (List.Mem.tail _ (List.Mem.tail _ (List.Mem.head _))))) rfl
theorem k_1365 : Cond.constantLong RX9 346 12387257 ∈ tb := cm_6_16 (List.Mem.tail _ (List.Mem.tail _ (List.Mem.tail _ (List.Mem.tail _ (List.Mem.tail _ (List.Mem.head _)))))) rfl
theorem k_1366 : Cond.methodLink RX9 307 yX9_isDigit ∈ tb := cm_6_16 (List.Mem.tail _ (List.Mem.tail _ (List.Mem.tail _ (List.Mem.tail _ (List.Mem.tail _ (List.Mem.tail _ (List.Mem.head _))))))) rfl
theorem k_1367 : Cond.static yX9_isDigit ∈ tb := cm_6_16 (List.Mem.tail _ (List.Mem.tail _ (List.Mem.tail _ (List.Mem.tail _ (List.Mem.tail _ (List.Mem.tail _ (List.Mem.tail _ (List.Mem.head _)))))))) rfl
theorem k_1368 : Cond.code yX9_isDigit cX9_isDigit 1 (some .boolean) ∈ tb := cm_6_16 (List.Mem.tail _ (List.Mem.tail _ (List.Mem.tail _ (List.Mem.tail _ (List.Mem.tail _ (List.Mem.tail _ (List.Mem.tail _ (List.Mem.tail _ (List.Mem.head _))))))))) rfl
theorem k_1369 : Cond.methodLink RX9 313 yX9_signOf ∈ tb := cm_6_16 (List.Mem.tail _ (List.Mem.tail _ (List.Mem.tail _ (List.Mem.tail _ (List.Mem.tail _ (List.Mem.tail _ (List.Mem.tail _ (List.Mem.tail _ (List.Mem.tail _ (List.Mem.head _)))))))))) rfl
theorem k_1370 : Cond.static yX9_signOf ∈ tb := cm_6_17 (List.Mem.head _) rfl
theorem k_1371 : Cond.code yX9_signOf cX9_signOf 1 (some .int) ∈ tb := cm_6_17 (List.Mem.tail _ (List.Mem.head _)) rfl
theorem k_1372 : Cond.methodLink RX9 365 yX9_opened ∈ tb := cm_6_17 (List.Mem.tail _ (List.Mem.tail _ (List.Mem.head _))) rfl
theorem k_1374 : Cond.instanceMethod yX9_opened ∈ tb := cm_6_17 (List.Mem.tail _ (List.Mem.tail _ (List.Mem.tail _ (List.Mem.tail _ (List.Mem.head _))))) rfl
theorem k_1375 : Cond.code yX9_opened cX9_opened 3 (some .int) ∈ tb := cm_6_17 (List.Mem.tail _ (List.Mem.tail _ (List.Mem.tail _ (List.Mem.tail _ (List.Mem.tail _ (List.Mem.head _)))))) rfl
theorem k_1376 : Cond.methodLink RX9 357 yX9_lay ∈ tb := cm_6_17 (List.Mem.tail _ (List.Mem.tail _ (List.Mem.tail _ (List.Mem.tail _ (List.Mem.tail _ (List.Mem.tail _ (List.Mem.head _))))))) rfl
theorem k_1378 : Cond.instanceMethod yX9_lay ∈ tb := cm_6_17 (List.Mem.tail _ (List.Mem.tail _ (List.Mem.tail _ (List.Mem.tail _ (List.Mem.tail _ (List.Mem.tail _ (List.Mem.tail _ (List.Mem.tail _ (List.Mem.head _))))))))) rfl
theorem k_1379 : Cond.code yX9_lay cX9_lay 3 none ∈ tb := cm_6_17 (List.Mem.tail _ (List.Mem.tail _ (List.Mem.tail _ (List.Mem.tail _ (List.Mem.tail _ (List.Mem.tail _ (List.Mem.tail _ (List.Mem.tail _ (List.Mem.tail _ (List.Mem.head _)))))))))) rfl
theorem k_1380 : Cond.methodLink RX9 368 yX9_done ∈ tb := cm_6_18 (List.Mem.head _) rfl
theorem k_1382 : Cond.instanceMethod yX9_done ∈ tb := cm_6_18 (List.Mem.tail _ (List.Mem.tail _ (List.Mem.head _))) rfl
theorem k_1383 : Cond.code yX9_done cX9_done 2 none ∈ tb := cm_6_18 (List.Mem.tail _ (List.Mem.tail _ (List.Mem.tail _ (List.Mem.head _)))) rfl
theorem k_1384 : Cond.methodLink RX9 354 yX9_tight ∈ tb := cm_6_18 (List.Mem.tail _ (List.Mem.tail _ (List.Mem.tail _ (List.Mem.tail _ (List.Mem.head _))))) rfl
theorem k_1385 : Cond.static yX9_tight ∈ tb := cm_6_18 (List.Mem.tail _ (List.Mem.tail _ (List.Mem.tail _ (List.Mem.tail _ (List.Mem.tail _ (List.Mem.head _)))))) rfl
theorem k_1386 : Cond.code yX9_tight cX9_tight 1 (some .int) ∈ tb := cm_6_18 (List.Mem.tail _ (List.Mem.tail _ (List.Mem.tail _ (List.Mem.tail _ (List.Mem.tail _ (List.Mem.tail _ (List.Mem.head _))))))) rfl
theorem k_1387 : Cond.methodLink R_law 101 yX9_trial ∈ tb := cm_6_18 (List.Mem.tail _ (List.Mem.tail _ (List.Mem.tail _ (List.Mem.tail _ (List.Mem.tail _ (List.Mem.tail _ (List.Mem.tail _ (List.Mem.head _)))))))) rfl
theorem k_1388 : Cond.instanceMethod yX9_trial ∈ tb := cm_6_18 (List.Mem.tail _ (List.Mem.tail _ (List.Mem.tail _ (List.Mem.tail _ (List.Mem.tail _ (List.Mem.tail _ (List.Mem.tail _ (List.Mem.tail _ (List.Mem.head _))))))))) rfl
theorem k_1389 : Cond.selects RX9 yX9_trial yX9_trial ∈ tb := cm_6_18 (List.Mem.tail _ (List.Mem.tail _ (List.Mem.tail _ (List.Mem.tail _ (List.Mem.tail _ (List.Mem.tail _ (List.Mem.tail _ (List.Mem.tail _ (List.Mem.tail _ (List.Mem.head _)))))))))) rfl
theorem k_1390 : Cond.code yX9_trial cX9_trial 4 (some .int) ∈ tb := cm_6_19 (List.Mem.head _) rfl
theorem k_1391 : Cond.methodLink RX9 380 yX9_trialOf ∈ tb := cm_6_19 (List.Mem.tail _ (List.Mem.head _)) rfl
theorem k_1393 : Cond.instanceMethod yX9_trialOf ∈ tb := cm_6_19 (List.Mem.tail _ (List.Mem.tail _ (List.Mem.tail _ (List.Mem.head _)))) rfl
theorem k_1394 : Cond.code yX9_trialOf cX9_trialOf 11 (some .int) ∈ tb := cm_6_19 (List.Mem.tail _ (List.Mem.tail _ (List.Mem.tail _ (List.Mem.tail _ (List.Mem.head _))))) rfl
theorem k_1395 : Cond.methodLink RX9 377 yX9_says ∈ tb := cm_6_19 (List.Mem.tail _ (List.Mem.tail _ (List.Mem.tail _ (List.Mem.tail _ (List.Mem.tail _ (List.Mem.head _)))))) rfl
theorem k_1397 : Cond.instanceMethod yX9_says ∈ tb := cm_6_19 (List.Mem.tail _ (List.Mem.tail _ (List.Mem.tail _ (List.Mem.tail _ (List.Mem.tail _ (List.Mem.tail _ (List.Mem.tail _ (List.Mem.head _)))))))) rfl
theorem k_1398 : Cond.code yX9_says cX9_says 5 (some .int) ∈ tb := cm_6_19 (List.Mem.tail _ (List.Mem.tail _ (List.Mem.tail _ (List.Mem.tail _ (List.Mem.tail _ (List.Mem.tail _ (List.Mem.tail _ (List.Mem.tail _ (List.Mem.head _))))))))) rfl
theorem k_1399 : Cond.methodLink RX9 374 yX9_both ∈ tb := cm_6_19 (List.Mem.tail _ (List.Mem.tail _ (List.Mem.tail _ (List.Mem.tail _ (List.Mem.tail _ (List.Mem.tail _ (List.Mem.tail _ (List.Mem.tail _ (List.Mem.tail _ (List.Mem.head _)))))))))) rfl
theorem k_1400 : Cond.static yX9_both ∈ tb := cm_6_20 (List.Mem.head _) rfl
theorem k_1401 : Cond.code yX9_both cX9_both 3 (some .int) ∈ tb := cm_6_20 (List.Mem.tail _ (List.Mem.head _)) rfl
theorem k_1402 : Cond.methodLink R_law 105 yX9_order ∈ tb := cm_6_20 (List.Mem.tail _ (List.Mem.tail _ (List.Mem.head _))) rfl
theorem k_1403 : Cond.instanceMethod yX9_order ∈ tb := cm_6_20 (List.Mem.tail _ (List.Mem.tail _ (List.Mem.tail _ (List.Mem.head _)))) rfl
theorem k_1404 : Cond.selects RX9 yX9_order yX9_order ∈ tb := cm_6_20 (List.Mem.tail _ (List.Mem.tail _ (List.Mem.tail _ (List.Mem.tail _ (List.Mem.head _))))) rfl
theorem k_1405 : Cond.code yX9_order cX9_order 8 (some .int) ∈ tb := cm_6_20 (List.Mem.tail _ (List.Mem.tail _ (List.Mem.tail _ (List.Mem.tail _ (List.Mem.tail _ (List.Mem.head _)))))) rfl
theorem k_1406 : Cond.methodLink RX9 383 yX9_hasTrial ∈ tb := cm_6_20 (List.Mem.tail _ (List.Mem.tail _ (List.Mem.tail _ (List.Mem.tail _ (List.Mem.tail _ (List.Mem.tail _ (List.Mem.head _))))))) rfl
theorem k_1408 : Cond.instanceMethod yX9_hasTrial ∈ tb := cm_6_20 (List.Mem.tail _ (List.Mem.tail _ (List.Mem.tail _ (List.Mem.tail _ (List.Mem.tail _ (List.Mem.tail _ (List.Mem.tail _ (List.Mem.tail _ (List.Mem.head _))))))))) rfl
theorem k_1409 : Cond.code yX9_hasTrial cX9_hasTrial 4 (some .boolean) ∈ tb := cm_6_20 (List.Mem.tail _ (List.Mem.tail _ (List.Mem.tail _ (List.Mem.tail _ (List.Mem.tail _ (List.Mem.tail _ (List.Mem.tail _ (List.Mem.tail _ (List.Mem.tail _ (List.Mem.head _)))))))))) rfl
theorem k_1410 : Cond.methodLink R_law 109 yX9_sail ∈ tb := cm_6_21 (List.Mem.head _) rfl
theorem k_1411 : Cond.instanceMethod yX9_sail ∈ tb := cm_6_21 (List.Mem.tail _ (List.Mem.head _)) rfl
theorem k_1412 : Cond.selects RX9 yX9_sail yX9_sail ∈ tb := cm_6_21 (List.Mem.tail _ (List.Mem.tail _ (List.Mem.head _))) rfl
theorem k_1413 : Cond.code yX9_sail cX9_sail 10 (some .int) ∈ tb := cm_6_21 (List.Mem.tail _ (List.Mem.tail _ (List.Mem.tail _ (List.Mem.head _)))) rfl
theorem k_1414 : Cond.methodLink RX9 386 yX9_isShip ∈ tb := cm_6_21 (List.Mem.tail _ (List.Mem.tail _ (List.Mem.tail _ (List.Mem.tail _ (List.Mem.head _))))) rfl
theorem k_1415 : Cond.static yX9_isShip ∈ tb := cm_6_21 (List.Mem.tail _ (List.Mem.tail _ (List.Mem.tail _ (List.Mem.tail _ (List.Mem.tail _ (List.Mem.head _)))))) rfl
theorem k_1416 : Cond.code yX9_isShip cX9_isShip 1 (some .boolean) ∈ tb := cm_6_21 (List.Mem.tail _ (List.Mem.tail _ (List.Mem.tail _ (List.Mem.tail _ (List.Mem.tail _ (List.Mem.tail _ (List.Mem.head _))))))) rfl
theorem k_1417 : Cond.methodLink RX9 389 yX9_maySail ∈ tb := cm_6_21 (List.Mem.tail _ (List.Mem.tail _ (List.Mem.tail _ (List.Mem.tail _ (List.Mem.tail _ (List.Mem.tail _ (List.Mem.tail _ (List.Mem.head _)))))))) rfl
theorem k_1419 : Cond.instanceMethod yX9_maySail ∈ tb := cm_6_21 (List.Mem.tail _ (List.Mem.tail _ (List.Mem.tail _ (List.Mem.tail _ (List.Mem.tail _ (List.Mem.tail _ (List.Mem.tail _ (List.Mem.tail _ (List.Mem.tail _ (List.Mem.head _)))))))))) rfl
theorem k_1420 : Cond.code yX9_maySail cX9_maySail 2 (some .boolean) ∈ tb := cm_6_22 (List.Mem.head _) rfl
theorem k_1421 : Cond.methodLink RX9 392 yX9_goesTo ∈ tb := cm_6_22 (List.Mem.tail _ (List.Mem.head _)) rfl
theorem k_1423 : Cond.instanceMethod yX9_goesTo ∈ tb := cm_6_22 (List.Mem.tail _ (List.Mem.tail _ (List.Mem.tail _ (List.Mem.head _)))) rfl
theorem k_1424 : Cond.code yX9_goesTo cX9_goesTo 3 none ∈ tb := cm_6_22 (List.Mem.tail _ (List.Mem.tail _ (List.Mem.tail _ (List.Mem.tail _ (List.Mem.head _))))) rfl
theorem k_1425 : Cond.methodLink R_law 113 yX9_carried ∈ tb := cm_6_22 (List.Mem.tail _ (List.Mem.tail _ (List.Mem.tail _ (List.Mem.tail _ (List.Mem.tail _ (List.Mem.head _)))))) rfl
theorem k_1426 : Cond.instanceMethod yX9_carried ∈ tb := cm_6_22 (List.Mem.tail _ (List.Mem.tail _ (List.Mem.tail _ (List.Mem.tail _ (List.Mem.tail _ (List.Mem.tail _ (List.Mem.head _))))))) rfl
theorem k_1427 : Cond.selects RX9 yX9_carried yX9_carried ∈ tb := cm_6_22 (List.Mem.tail _ (List.Mem.tail _ (List.Mem.tail _ (List.Mem.tail _ (List.Mem.tail _ (List.Mem.tail _ (List.Mem.tail _ (List.Mem.head _)))))))) rfl
theorem k_1428 : Cond.code yX9_carried cX9_carried 5 (some .int) ∈ tb := cm_6_22 (List.Mem.tail _ (List.Mem.tail _ (List.Mem.tail _ (List.Mem.tail _ (List.Mem.tail _ (List.Mem.tail _ (List.Mem.tail _ (List.Mem.tail _ (List.Mem.head _))))))))) rfl
theorem k_1429 : Cond.methodLink R_law 117 yX9_sight ∈ tb := cm_6_22 (List.Mem.tail _ (List.Mem.tail _ (List.Mem.tail _ (List.Mem.tail _ (List.Mem.tail _ (List.Mem.tail _ (List.Mem.tail _ (List.Mem.tail _ (List.Mem.tail _ (List.Mem.head _)))))))))) rfl
theorem k_1430 : Cond.instanceMethod yX9_sight ∈ tb := cm_6_23 (List.Mem.head _) rfl
theorem k_1431 : Cond.selects RX9 yX9_sight yX9_sight ∈ tb := cm_6_23 (List.Mem.tail _ (List.Mem.head _)) rfl
theorem k_1432 : Cond.code yX9_sight cX9_sight 7 (some .int) ∈ tb := cm_6_23 (List.Mem.tail _ (List.Mem.tail _ (List.Mem.head _))) rfl
theorem k_1433 : Cond.methodLink RX9 397 yX9_isShown ∈ tb := cm_6_23 (List.Mem.tail _ (List.Mem.tail _ (List.Mem.tail _ (List.Mem.head _)))) rfl
theorem k_1434 : Cond.static yX9_isShown ∈ tb := cm_6_23 (List.Mem.tail _ (List.Mem.tail _ (List.Mem.tail _ (List.Mem.tail _ (List.Mem.head _))))) rfl
theorem k_1435 : Cond.code yX9_isShown cX9_isShown 1 (some .boolean) ∈ tb := cm_6_23 (List.Mem.tail _ (List.Mem.tail _ (List.Mem.tail _ (List.Mem.tail _ (List.Mem.tail _ (List.Mem.head _)))))) rfl
theorem k_1436 : Cond.constant RX9 395 (-2000000) ∈ tb := cm_6_23 (List.Mem.tail _ (List.Mem.tail _ (List.Mem.tail _ (List.Mem.tail _ (List.Mem.tail _ (List.Mem.tail _ (List.Mem.head _))))))) rfl
theorem k_1437 : Cond.constant RX9 396 2000000 ∈ tb := cm_6_23 (List.Mem.tail _ (List.Mem.tail _ (List.Mem.tail _ (List.Mem.tail _ (List.Mem.tail _ (List.Mem.tail _ (List.Mem.tail _ (List.Mem.head _)))))))) rfl
theorem k_1438 : Cond.methodLink R_law 121 yX9_told ∈ tb := cm_6_23 (List.Mem.tail _ (List.Mem.tail _ (List.Mem.tail _ (List.Mem.tail _ (List.Mem.tail _ (List.Mem.tail _ (List.Mem.tail _ (List.Mem.tail _ (List.Mem.head _))))))))) rfl
theorem k_1439 : Cond.instanceMethod yX9_told ∈ tb := cm_6_23 (List.Mem.tail _ (List.Mem.tail _ (List.Mem.tail _ (List.Mem.tail _ (List.Mem.tail _ (List.Mem.tail _ (List.Mem.tail _ (List.Mem.tail _ (List.Mem.tail _ (List.Mem.head _)))))))))) rfl
theorem k_1440 : Cond.selects RX9 yX9_told yX9_told ∈ tb := cm_7_0 (List.Mem.head _) rfl
theorem k_1441 : Cond.code yX9_told cX9_told 8 (some .int) ∈ tb := cm_7_0 (List.Mem.tail _ (List.Mem.head _)) rfl
theorem k_1442 : Cond.methodLink RX9 402 yX9_work ∈ tb := cm_7_0 (List.Mem.tail _ (List.Mem.tail _ (List.Mem.head _))) rfl
theorem k_1444 : Cond.instanceMethod yX9_work ∈ tb := cm_7_0 (List.Mem.tail _ (List.Mem.tail _ (List.Mem.tail _ (List.Mem.tail _ (List.Mem.head _))))) rfl
theorem k_1445 : Cond.code yX9_work cX9_work 11 (some .int) ∈ tb := cm_7_0 (List.Mem.tail _ (List.Mem.tail _ (List.Mem.tail _ (List.Mem.tail _ (List.Mem.tail _ (List.Mem.head _)))))) rfl
theorem k_1446 : Cond.constantLong RX9 400 2 ∈ tb := cm_7_0 (List.Mem.tail _ (List.Mem.tail _ (List.Mem.tail _ (List.Mem.tail _ (List.Mem.tail _ (List.Mem.tail _ (List.Mem.head _))))))) rfl
theorem k_1447 : Cond.constant RX9 405 2000000000 ∈ tb := cm_7_0 (List.Mem.tail _ (List.Mem.tail _ (List.Mem.tail _ (List.Mem.tail _ (List.Mem.tail _ (List.Mem.tail _ (List.Mem.tail _ (List.Mem.head _)))))))) rfl
theorem k_1448 : Cond.methodLink R_law 125 yX9_back ∈ tb := cm_7_0 (List.Mem.tail _ (List.Mem.tail _ (List.Mem.tail _ (List.Mem.tail _ (List.Mem.tail _ (List.Mem.tail _ (List.Mem.tail _ (List.Mem.tail _ (List.Mem.head _))))))))) rfl
theorem k_1449 : Cond.instanceMethod yX9_back ∈ tb := cm_7_0 (List.Mem.tail _ (List.Mem.tail _ (List.Mem.tail _ (List.Mem.tail _ (List.Mem.tail _ (List.Mem.tail _ (List.Mem.tail _ (List.Mem.tail _ (List.Mem.tail _ (List.Mem.head _)))))))))) rfl
theorem k_1450 : Cond.selects RX9 yX9_back yX9_back ∈ tb := cm_7_1 (List.Mem.head _) rfl
theorem k_1451 : Cond.code yX9_back cX9_back 8 (some .int) ∈ tb := cm_7_1 (List.Mem.tail _ (List.Mem.head _)) rfl
theorem k_1452 : Cond.methodLink R_law 129 yX9_state ∈ tb := cm_7_1 (List.Mem.tail _ (List.Mem.tail _ (List.Mem.head _))) rfl
theorem k_1453 : Cond.instanceMethod yX9_state ∈ tb := cm_7_1 (List.Mem.tail _ (List.Mem.tail _ (List.Mem.tail _ (List.Mem.head _)))) rfl
theorem k_1454 : Cond.selects RX9 yX9_state yX9_state ∈ tb := cm_7_1 (List.Mem.tail _ (List.Mem.tail _ (List.Mem.tail _ (List.Mem.tail _ (List.Mem.head _))))) rfl
theorem k_1455 : Cond.code yX9_state cX9_state 2 (some .int) ∈ tb := cm_7_1 (List.Mem.tail _ (List.Mem.tail _ (List.Mem.tail _ (List.Mem.tail _ (List.Mem.tail _ (List.Mem.head _)))))) rfl
theorem k_1456 : Cond.methodLink R_law 133 yX9_doubt ∈ tb := cm_7_1 (List.Mem.tail _ (List.Mem.tail _ (List.Mem.tail _ (List.Mem.tail _ (List.Mem.tail _ (List.Mem.tail _ (List.Mem.head _))))))) rfl
theorem k_1457 : Cond.instanceMethod yX9_doubt ∈ tb := cm_7_1 (List.Mem.tail _ (List.Mem.tail _ (List.Mem.tail _ (List.Mem.tail _ (List.Mem.tail _ (List.Mem.tail _ (List.Mem.tail _ (List.Mem.head _)))))))) rfl
theorem k_1458 : Cond.selects RX9 yX9_doubt yX9_doubt ∈ tb := cm_7_1 (List.Mem.tail _ (List.Mem.tail _ (List.Mem.tail _ (List.Mem.tail _ (List.Mem.tail _ (List.Mem.tail _ (List.Mem.tail _ (List.Mem.tail _ (List.Mem.head _))))))))) rfl
theorem k_1459 : Cond.code yX9_doubt cX9_doubt 2 (some .int) ∈ tb := cm_7_1 (List.Mem.tail _ (List.Mem.tail _ (List.Mem.tail _ (List.Mem.tail _ (List.Mem.tail _ (List.Mem.tail _ (List.Mem.tail _ (List.Mem.tail _ (List.Mem.tail _ (List.Mem.head _)))))))))) rfl
theorem k_1460 : Cond.methodLink R_law 137 yX9_deal ∈ tb := cm_7_2 (List.Mem.head _) rfl
theorem k_1461 : Cond.instanceMethod yX9_deal ∈ tb := cm_7_2 (List.Mem.tail _ (List.Mem.head _)) rfl
theorem k_1462 : Cond.selects RX9 yX9_deal yX9_deal ∈ tb := cm_7_2 (List.Mem.tail _ (List.Mem.tail _ (List.Mem.head _))) rfl
theorem k_1463 : Cond.code yX9_deal cX9_deal 9 (some .int) ∈ tb := cm_7_2 (List.Mem.tail _ (List.Mem.tail _ (List.Mem.tail _ (List.Mem.head _)))) rfl
theorem k_1464 : Cond.methodLink RX9 409 yX9_isWay ∈ tb := cm_7_2 (List.Mem.tail _ (List.Mem.tail _ (List.Mem.tail _ (List.Mem.tail _ (List.Mem.head _))))) rfl
theorem k_1466 : Cond.instanceMethod yX9_isWay ∈ tb := cm_7_2 (List.Mem.tail _ (List.Mem.tail _ (List.Mem.tail _ (List.Mem.tail _ (List.Mem.tail _ (List.Mem.tail _ (List.Mem.head _))))))) rfl
theorem k_1467 : Cond.code yX9_isWay cX9_isWay 3 (some .boolean) ∈ tb := cm_7_2 (List.Mem.tail _ (List.Mem.tail _ (List.Mem.tail _ (List.Mem.tail _ (List.Mem.tail _ (List.Mem.tail _ (List.Mem.tail _ (List.Mem.head _)))))))) rfl
theorem k_1468 : Cond.methodLink RX9 412 yX9_secondOf ∈ tb := cm_7_2 (List.Mem.tail _ (List.Mem.tail _ (List.Mem.tail _ (List.Mem.tail _ (List.Mem.tail _ (List.Mem.tail _ (List.Mem.tail _ (List.Mem.tail _ (List.Mem.head _))))))))) rfl
theorem k_1470 : Cond.instanceMethod yX9_secondOf ∈ tb := cm_7_3 (List.Mem.head _) rfl
theorem k_1471 : Cond.code yX9_secondOf cX9_secondOf 5 (some .int) ∈ tb := cm_7_3 (List.Mem.tail _ (List.Mem.head _)) rfl
theorem k_1472 : Cond.methodLink R_law 141 yX9_dealt ∈ tb := cm_7_3 (List.Mem.tail _ (List.Mem.tail _ (List.Mem.head _))) rfl
theorem k_1473 : Cond.instanceMethod yX9_dealt ∈ tb := cm_7_3 (List.Mem.tail _ (List.Mem.tail _ (List.Mem.tail _ (List.Mem.head _)))) rfl
theorem k_1474 : Cond.selects RX9 yX9_dealt yX9_dealt ∈ tb := cm_7_3 (List.Mem.tail _ (List.Mem.tail _ (List.Mem.tail _ (List.Mem.tail _ (List.Mem.head _))))) rfl
theorem k_1475 : Cond.code yX9_dealt cX9_dealt 2 (some .int) ∈ tb := cm_7_3 (List.Mem.tail _ (List.Mem.tail _ (List.Mem.tail _ (List.Mem.tail _ (List.Mem.tail _ (List.Mem.head _)))))) rfl
theorem k_1476 : Cond.methodLink R_law 145 yX9_lend ∈ tb := cm_7_3 (List.Mem.tail _ (List.Mem.tail _ (List.Mem.tail _ (List.Mem.tail _ (List.Mem.tail _ (List.Mem.tail _ (List.Mem.head _))))))) rfl
theorem k_1477 : Cond.instanceMethod yX9_lend ∈ tb := cm_7_3 (List.Mem.tail _ (List.Mem.tail _ (List.Mem.tail _ (List.Mem.tail _ (List.Mem.tail _ (List.Mem.tail _ (List.Mem.tail _ (List.Mem.head _)))))))) rfl
theorem k_1478 : Cond.selects RX9 yX9_lend yX9_lend ∈ tb := cm_7_3 (List.Mem.tail _ (List.Mem.tail _ (List.Mem.tail _ (List.Mem.tail _ (List.Mem.tail _ (List.Mem.tail _ (List.Mem.tail _ (List.Mem.tail _ (List.Mem.head _))))))))) rfl
theorem k_1479 : Cond.code yX9_lend cX9_lend 4 (some .int) ∈ tb := cm_7_3 (List.Mem.tail _ (List.Mem.tail _ (List.Mem.tail _ (List.Mem.tail _ (List.Mem.tail _ (List.Mem.tail _ (List.Mem.tail _ (List.Mem.tail _ (List.Mem.tail _ (List.Mem.head _)))))))))) rfl
theorem k_1480 : Cond.methodLink R_law 149 yX9_home ∈ tb := cm_7_4 (List.Mem.head _) rfl
theorem k_1481 : Cond.instanceMethod yX9_home ∈ tb := cm_7_4 (List.Mem.tail _ (List.Mem.head _)) rfl
theorem k_1482 : Cond.selects RX9 yX9_home yX9_home ∈ tb := cm_7_4 (List.Mem.tail _ (List.Mem.tail _ (List.Mem.head _))) rfl
theorem k_1483 : Cond.code yX9_home cX9_home 3 (some .int) ∈ tb := cm_7_4 (List.Mem.tail _ (List.Mem.tail _ (List.Mem.tail _ (List.Mem.head _)))) rfl
theorem k_1484 : Cond.methodLink R_law 153 yX9_holder ∈ tb := cm_7_4 (List.Mem.tail _ (List.Mem.tail _ (List.Mem.tail _ (List.Mem.tail _ (List.Mem.head _))))) rfl
theorem k_1485 : Cond.instanceMethod yX9_holder ∈ tb := cm_7_4 (List.Mem.tail _ (List.Mem.tail _ (List.Mem.tail _ (List.Mem.tail _ (List.Mem.tail _ (List.Mem.head _)))))) rfl
theorem k_1486 : Cond.selects RX9 yX9_holder yX9_holder ∈ tb := cm_7_4 (List.Mem.tail _ (List.Mem.tail _ (List.Mem.tail _ (List.Mem.tail _ (List.Mem.tail _ (List.Mem.tail _ (List.Mem.head _))))))) rfl
theorem k_1487 : Cond.code yX9_holder cX9_holder 3 (some .int) ∈ tb := cm_7_4 (List.Mem.tail _ (List.Mem.tail _ (List.Mem.tail _ (List.Mem.tail _ (List.Mem.tail _ (List.Mem.tail _ (List.Mem.tail _ (List.Mem.head _)))))))) rfl
theorem k_1488 : Cond.methodLink R_law 157 yX9_away ∈ tb := cm_7_4 (List.Mem.tail _ (List.Mem.tail _ (List.Mem.tail _ (List.Mem.tail _ (List.Mem.tail _ (List.Mem.tail _ (List.Mem.tail _ (List.Mem.tail _ (List.Mem.head _))))))))) rfl
theorem k_1489 : Cond.instanceMethod yX9_away ∈ tb := cm_7_4 (List.Mem.tail _ (List.Mem.tail _ (List.Mem.tail _ (List.Mem.tail _ (List.Mem.tail _ (List.Mem.tail _ (List.Mem.tail _ (List.Mem.tail _ (List.Mem.tail _ (List.Mem.head _)))))))))) rfl
theorem k_1490 : Cond.selects RX9 yX9_away yX9_away ∈ tb := cm_7_5 (List.Mem.head _) rfl
theorem k_1491 : Cond.code yX9_away cX9_away 5 (some .int) ∈ tb := cm_7_5 (List.Mem.tail _ (List.Mem.head _)) rfl
theorem k_1492 : Cond.methodLink R_law 161 yX9_count ∈ tb := cm_7_5 (List.Mem.tail _ (List.Mem.tail _ (List.Mem.head _))) rfl
theorem k_1493 : Cond.instanceMethod yX9_count ∈ tb := cm_7_5 (List.Mem.tail _ (List.Mem.tail _ (List.Mem.tail _ (List.Mem.head _)))) rfl
theorem k_1494 : Cond.selects RX9 yX9_count yX9_count ∈ tb := cm_7_5 (List.Mem.tail _ (List.Mem.tail _ (List.Mem.tail _ (List.Mem.tail _ (List.Mem.head _))))) rfl
theorem k_1495 : Cond.code yX9_count cX9_count 4 (some .int) ∈ tb := cm_7_5 (List.Mem.tail _ (List.Mem.tail _ (List.Mem.tail _ (List.Mem.tail _ (List.Mem.tail _ (List.Mem.head _)))))) rfl
theorem k_1496 : Cond.fieldLink "java/lang/String" 9 "java/lang/String" "value" "[B" ∈ tb := cm_7_5 (List.Mem.tail _ (List.Mem.tail _ (List.Mem.tail _ (List.Mem.tail _ (List.Mem.tail _ (List.Mem.tail _ (List.Mem.head _))))))) rfl
theorem k_1497 : Cond.fieldLink "java/lang/String" 15 "java/lang/String" "coder" "B" ∈ tb := cm_7_5 (List.Mem.tail _ (List.Mem.tail _ (List.Mem.tail _ (List.Mem.tail _ (List.Mem.tail _ (List.Mem.tail _ (List.Mem.tail _ (List.Mem.head _)))))))) rfl
def chS : List Cond := [Cond.selects RX8 yX8_bringWatch yX8_bringWatch, Cond.selects RX8 yX8_watchAt yX8_watchAt, Cond.selects RX8 yX8_isPast yX8_isPast, Cond.selects RX8 yX8_lackAt yX8_lackAt, Cond.selects RX8 yX8_markOn yX8_markOn, Cond.selects RX8 yX8_refusalOfStretch yX8_refusalOfStretch, Cond.selects RX8 yX8_fitLaw yX8_fitLaw, Cond.selects RX8 yX8_warmthFor yX8_warmthFor, Cond.selects RX1 yX1_setLaw yX1_setLaw, Cond.selects RX1 yX1_addProduct yX1_addProduct, Cond.selects RX3 yX3_middleOne yX3_middleOne, Cond.selects RX6 yX6_goOn yX6_goOn, Cond.selects RX6 yX6_takeLetters yX6_takeLetters, Cond.selects RX6 yX6_placeAmongWords yX6_placeAmongWords, Cond.selects RX6 yX6_isOnTape yX6_isOnTape, Cond.selects RX6 yX6_takeDigits yX6_takeDigits, Cond.selects RX6 yX6_readEither yX6_readEither, Cond.selects RX6 yX6_readBoth yX6_readBoth, Cond.selects RX6 yX6_readNegation yX6_readNegation, Cond.selects RX6 yX6_readComparison yX6_readComparison, Cond.selects RX6 yX6_readSum yX6_readSum, Cond.selects RX6 yX6_readProduct yX6_readProduct, Cond.selects RX6 yX6_readOperand yX6_readOperand, Cond.selects RX6 yX6_readInBrackets yX6_readInBrackets, Cond.selects RX8 yX8_hasTrial yX8_hasTrial, Cond.selects RX8 yX8_workOutTrial yX8_workOutTrial, Cond.selects RX8 yX8_warmthSpan yX8_warmthSpan, Cond.selects RX8 yX8_firstLack yX8_firstLack, Cond.selects RX8 yX8_isFitToSail yX8_isFitToSail, Cond.selects RX8 yX8_gatherBeforeSailing yX8_gatherBeforeSailing, Cond.selects RX8 yX8_board yX8_board, Cond.selects RX5 yX5_isOf yX5_isOf, Cond.selects RX8 yX8_droppedOf yX8_droppedOf, Cond.selects RX8 yX8_unload yX8_unload, Cond.selects RX0 yX0_tryFrom yX0_tryFrom, Cond.selects RX0 yX0_keepIfBetter yX0_keepIfBetter, Cond.selects RX0 yX0_secondLeast yX0_secondLeast, Cond.selects RX8 yX8_placesWith yX8_placesWith, Cond.selects RX8 yX8_shipsAtSea yX8_shipsAtSea, Cond.selects RX9 yX9_isWatch yX9_isWatch, Cond.selects RX9 yX9_holderNow yX9_holderNow, Cond.selects RX9 yX9_watchAt yX9_watchAt, Cond.selects RX9 yX9_errorOf yX9_errorOf, Cond.selects RX9 yX9_rateOf yX9_rateOf, Cond.selects RX9 yX9_ageOf yX9_ageOf, Cond.selects RX9 yX9_asked yX9_asked, Cond.selects RX9 yX9_sumUp yX9_sumUp, Cond.selects RX9 yX9_warmthOf yX9_warmthOf, Cond.selects RX9 yX9_termsNow yX9_termsNow, Cond.selects RX9 yX9_three yX9_three, Cond.selects RX9 yX9_two yX9_two, Cond.selects RX9 yX9_byThree yX9_byThree, Cond.selects RX9 yX9_byTwo yX9_byTwo, Cond.selects RX9 yX9_findRates yX9_findRates, Cond.selects RX9 yX9_readRule yX9_readRule, Cond.selects RX9 yX9_advance yX9_advance, Cond.selects RX9 yX9_opened yX9_opened, Cond.selects RX9 yX9_lay yX9_lay, Cond.selects RX9 yX9_done yX9_done, Cond.selects RX9 yX9_trialOf yX9_trialOf, Cond.selects RX9 yX9_says yX9_says, Cond.selects RX9 yX9_hasTrial yX9_hasTrial, Cond.selects RX9 yX9_maySail yX9_maySail, Cond.selects RX9 yX9_goesTo yX9_goesTo, Cond.selects RX9 yX9_work yX9_work, Cond.selects RX9 yX9_isWay yX9_isWay, Cond.selects RX9 yX9_secondOf yX9_secondOf]
set_option maxRecDepth 100000 in
theorem tqS : k2_sels lw_privs = chS := rfl
theorem cmS {w : Cond} (i : Nat) (h : chS[i]? = some w) (hg : goodWord w = true) : w ∈ tb := List.mem_filter.mpr ⟨List.mem_append_left _ (by rw [tqS]; exact List.mem_of_getElem? h), hg⟩
theorem ks_0 : Cond.selects RX8 yX8_bringWatch yX8_bringWatch ∈ tb := cmS 0 rfl rfl
theorem ks_1 : Cond.selects RX8 yX8_watchAt yX8_watchAt ∈ tb := cmS 1 rfl rfl
theorem ks_2 : Cond.selects RX8 yX8_isPast yX8_isPast ∈ tb := cmS 2 rfl rfl
theorem ks_3 : Cond.selects RX8 yX8_lackAt yX8_lackAt ∈ tb := cmS 3 rfl rfl
theorem ks_4 : Cond.selects RX8 yX8_markOn yX8_markOn ∈ tb := cmS 4 rfl rfl
theorem ks_5 : Cond.selects RX8 yX8_refusalOfStretch yX8_refusalOfStretch ∈ tb := cmS 5 rfl rfl
theorem ks_6 : Cond.selects RX8 yX8_fitLaw yX8_fitLaw ∈ tb := cmS 6 rfl rfl
theorem ks_7 : Cond.selects RX8 yX8_warmthFor yX8_warmthFor ∈ tb := cmS 7 rfl rfl
theorem ks_8 : Cond.selects RX1 yX1_setLaw yX1_setLaw ∈ tb := cmS 8 rfl rfl
theorem ks_9 : Cond.selects RX1 yX1_addProduct yX1_addProduct ∈ tb := cmS 9 rfl rfl
theorem ks_10 : Cond.selects RX3 yX3_middleOne yX3_middleOne ∈ tb := cmS 10 rfl rfl
theorem ks_11 : Cond.selects RX6 yX6_goOn yX6_goOn ∈ tb := cmS 11 rfl rfl
theorem ks_12 : Cond.selects RX6 yX6_takeLetters yX6_takeLetters ∈ tb := cmS 12 rfl rfl
theorem ks_13 : Cond.selects RX6 yX6_placeAmongWords yX6_placeAmongWords ∈ tb := cmS 13 rfl rfl
theorem ks_14 : Cond.selects RX6 yX6_isOnTape yX6_isOnTape ∈ tb := cmS 14 rfl rfl
theorem ks_15 : Cond.selects RX6 yX6_takeDigits yX6_takeDigits ∈ tb := cmS 15 rfl rfl
theorem ks_16 : Cond.selects RX6 yX6_readEither yX6_readEither ∈ tb := cmS 16 rfl rfl
theorem ks_17 : Cond.selects RX6 yX6_readBoth yX6_readBoth ∈ tb := cmS 17 rfl rfl
theorem ks_18 : Cond.selects RX6 yX6_readNegation yX6_readNegation ∈ tb := cmS 18 rfl rfl
theorem ks_19 : Cond.selects RX6 yX6_readComparison yX6_readComparison ∈ tb := cmS 19 rfl rfl
theorem ks_20 : Cond.selects RX6 yX6_readSum yX6_readSum ∈ tb := cmS 20 rfl rfl
theorem ks_21 : Cond.selects RX6 yX6_readProduct yX6_readProduct ∈ tb := cmS 21 rfl rfl
theorem ks_22 : Cond.selects RX6 yX6_readOperand yX6_readOperand ∈ tb := cmS 22 rfl rfl
theorem ks_23 : Cond.selects RX6 yX6_readInBrackets yX6_readInBrackets ∈ tb := cmS 23 rfl rfl
theorem ks_24 : Cond.selects RX8 yX8_hasTrial yX8_hasTrial ∈ tb := cmS 24 rfl rfl
theorem ks_25 : Cond.selects RX8 yX8_workOutTrial yX8_workOutTrial ∈ tb := cmS 25 rfl rfl
theorem ks_26 : Cond.selects RX8 yX8_warmthSpan yX8_warmthSpan ∈ tb := cmS 26 rfl rfl
theorem ks_27 : Cond.selects RX8 yX8_firstLack yX8_firstLack ∈ tb := cmS 27 rfl rfl
theorem ks_28 : Cond.selects RX8 yX8_isFitToSail yX8_isFitToSail ∈ tb := cmS 28 rfl rfl
theorem ks_29 : Cond.selects RX8 yX8_gatherBeforeSailing yX8_gatherBeforeSailing ∈ tb := cmS 29 rfl rfl
theorem ks_30 : Cond.selects RX8 yX8_board yX8_board ∈ tb := cmS 30 rfl rfl
theorem ks_31 : Cond.selects RX5 yX5_isOf yX5_isOf ∈ tb := cmS 31 rfl rfl
theorem ks_32 : Cond.selects RX8 yX8_droppedOf yX8_droppedOf ∈ tb := cmS 32 rfl rfl
theorem ks_33 : Cond.selects RX8 yX8_unload yX8_unload ∈ tb := cmS 33 rfl rfl
theorem ks_34 : Cond.selects RX0 yX0_tryFrom yX0_tryFrom ∈ tb := cmS 34 rfl rfl
theorem ks_35 : Cond.selects RX0 yX0_keepIfBetter yX0_keepIfBetter ∈ tb := cmS 35 rfl rfl
theorem ks_36 : Cond.selects RX0 yX0_secondLeast yX0_secondLeast ∈ tb := cmS 36 rfl rfl
theorem ks_37 : Cond.selects RX8 yX8_placesWith yX8_placesWith ∈ tb := cmS 37 rfl rfl
theorem ks_38 : Cond.selects RX8 yX8_shipsAtSea yX8_shipsAtSea ∈ tb := cmS 38 rfl rfl
theorem ks_39 : Cond.selects RX9 yX9_isWatch yX9_isWatch ∈ tb := cmS 39 rfl rfl
theorem ks_40 : Cond.selects RX9 yX9_holderNow yX9_holderNow ∈ tb := cmS 40 rfl rfl
theorem ks_41 : Cond.selects RX9 yX9_watchAt yX9_watchAt ∈ tb := cmS 41 rfl rfl
theorem ks_42 : Cond.selects RX9 yX9_errorOf yX9_errorOf ∈ tb := cmS 42 rfl rfl
theorem ks_43 : Cond.selects RX9 yX9_rateOf yX9_rateOf ∈ tb := cmS 43 rfl rfl
theorem ks_44 : Cond.selects RX9 yX9_ageOf yX9_ageOf ∈ tb := cmS 44 rfl rfl
theorem ks_45 : Cond.selects RX9 yX9_asked yX9_asked ∈ tb := cmS 45 rfl rfl
theorem ks_46 : Cond.selects RX9 yX9_sumUp yX9_sumUp ∈ tb := cmS 46 rfl rfl
theorem ks_47 : Cond.selects RX9 yX9_warmthOf yX9_warmthOf ∈ tb := cmS 47 rfl rfl
theorem ks_48 : Cond.selects RX9 yX9_termsNow yX9_termsNow ∈ tb := cmS 48 rfl rfl
theorem ks_49 : Cond.selects RX9 yX9_three yX9_three ∈ tb := cmS 49 rfl rfl
theorem ks_50 : Cond.selects RX9 yX9_two yX9_two ∈ tb := cmS 50 rfl rfl
theorem ks_51 : Cond.selects RX9 yX9_byThree yX9_byThree ∈ tb := cmS 51 rfl rfl
theorem ks_52 : Cond.selects RX9 yX9_byTwo yX9_byTwo ∈ tb := cmS 52 rfl rfl
theorem ks_53 : Cond.selects RX9 yX9_findRates yX9_findRates ∈ tb := cmS 53 rfl rfl
theorem ks_54 : Cond.selects RX9 yX9_readRule yX9_readRule ∈ tb := cmS 54 rfl rfl
theorem ks_55 : Cond.selects RX9 yX9_advance yX9_advance ∈ tb := cmS 55 rfl rfl
theorem ks_56 : Cond.selects RX9 yX9_opened yX9_opened ∈ tb := cmS 56 rfl rfl
theorem ks_57 : Cond.selects RX9 yX9_lay yX9_lay ∈ tb := cmS 57 rfl rfl
theorem ks_58 : Cond.selects RX9 yX9_done yX9_done ∈ tb := cmS 58 rfl rfl
theorem ks_59 : Cond.selects RX9 yX9_trialOf yX9_trialOf ∈ tb := cmS 59 rfl rfl
theorem ks_60 : Cond.selects RX9 yX9_says yX9_says ∈ tb := cmS 60 rfl rfl
theorem ks_61 : Cond.selects RX9 yX9_hasTrial yX9_hasTrial ∈ tb := cmS 61 rfl rfl
theorem ks_62 : Cond.selects RX9 yX9_maySail yX9_maySail ∈ tb := cmS 62 rfl rfl
theorem ks_63 : Cond.selects RX9 yX9_goesTo yX9_goesTo ∈ tb := cmS 63 rfl rfl
theorem ks_64 : Cond.selects RX9 yX9_work yX9_work ∈ tb := cmS 64 rfl rfl
theorem ks_65 : Cond.selects RX9 yX9_isWay yX9_isWay ∈ tb := cmS 65 rfl rfl
theorem ks_66 : Cond.selects RX9 yX9_secondOf yX9_secondOf ∈ tb := cmS 66 rfl rfl
theorem nc_0 : RX0 ≠ "java/lang/invoke/MethodHandle" ∧ RX0 ≠ "java/lang/invoke/VarHandle" := by decide +kernel
theorem nc_1 : RX1 ≠ "java/lang/invoke/MethodHandle" ∧ RX1 ≠ "java/lang/invoke/VarHandle" := by decide +kernel
theorem nc_2 : RX2 ≠ "java/lang/invoke/MethodHandle" ∧ RX2 ≠ "java/lang/invoke/VarHandle" := by decide +kernel
theorem nc_3 : RX3 ≠ "java/lang/invoke/MethodHandle" ∧ RX3 ≠ "java/lang/invoke/VarHandle" := by decide +kernel
theorem nc_4 : RX4 ≠ "java/lang/invoke/MethodHandle" ∧ RX4 ≠ "java/lang/invoke/VarHandle" := by decide +kernel
theorem nc_5 : RX5 ≠ "java/lang/invoke/MethodHandle" ∧ RX5 ≠ "java/lang/invoke/VarHandle" := by decide +kernel
theorem nc_6 : RX6 ≠ "java/lang/invoke/MethodHandle" ∧ RX6 ≠ "java/lang/invoke/VarHandle" := by decide +kernel
theorem nc_7 : RX7 ≠ "java/lang/invoke/MethodHandle" ∧ RX7 ≠ "java/lang/invoke/VarHandle" := by decide +kernel
theorem nc_8 : RX8 ≠ "java/lang/invoke/MethodHandle" ∧ RX8 ≠ "java/lang/invoke/VarHandle" := by decide +kernel
theorem nc_9 : RX9 ≠ "java/lang/invoke/MethodHandle" ∧ RX9 ≠ "java/lang/invoke/VarHandle" := by decide +kernel
theorem pd_0 : (parseMethodDescriptor "(I)V").map (fun d => d.parameters.length) = some 1 := by decide +kernel
theorem pd_1 : (parseMethodDescriptor "()V").map (fun d => d.parameters.length) = some 0 := by decide +kernel
theorem pd_2 : (parseMethodDescriptor "(I)I").map (fun d => d.parameters.length) = some 1 := by decide +kernel
theorem pd_3 : (parseMethodDescriptor "(IIII)I").map (fun d => d.parameters.length) = some 4 := by decide +kernel
theorem pd_4 : (parseMethodDescriptor "(II)V").map (fun d => d.parameters.length) = some 2 := by decide +kernel
theorem pd_5 : (parseMethodDescriptor "(JJJ)V").map (fun d => d.parameters.length) = some 3 := by decide +kernel
theorem pd_6 : (parseMethodDescriptor "(JJ)V").map (fun d => d.parameters.length) = some 2 := by decide +kernel
theorem pd_7 : (parseMethodDescriptor "()I").map (fun d => d.parameters.length) = some 0 := by decide +kernel
theorem pd_8 : (parseMethodDescriptor "(IJJJ)V").map (fun d => d.parameters.length) = some 4 := by decide +kernel
theorem pd_9 : (parseMethodDescriptor "(II)J").map (fun d => d.parameters.length) = some 2 := by decide +kernel
theorem pd_10 : (parseMethodDescriptor "(IIIII)V").map (fun d => d.parameters.length) = some 5 := by decide +kernel
theorem pd_11 : (parseMethodDescriptor "(III)I").map (fun d => d.parameters.length) = some 3 := by decide +kernel
theorem pd_12 : (parseMethodDescriptor "(LSeaWatches$Watch;LSeaWatches$Offs;II)V").map (fun d => d.parameters.length) = some 4 := by decide +kernel
theorem pd_13 : (parseMethodDescriptor "(I)Z").map (fun d => d.parameters.length) = some 1 := by decide +kernel
theorem pd_14 : (parseMethodDescriptor "([I)I").map (fun d => d.parameters.length) = some 1 := by decide +kernel
theorem pd_15 : (parseMethodDescriptor "(II)I").map (fun d => d.parameters.length) = some 2 := by decide +kernel
theorem pd_16 : (parseMethodDescriptor "(II)Z").map (fun d => d.parameters.length) = some 2 := by decide +kernel
theorem pd_17 : (parseMethodDescriptor "(LSeaWatches$Rule;)LSeaWatches$Rule;").map (fun d => d.parameters.length) = some 1 := by decide +kernel
theorem pd_18 : (parseMethodDescriptor "(Ljava/lang/String;)I").map (fun d => d.parameters.length) = some 1 := by decide +kernel
theorem pd_19 : (parseMethodDescriptor "(ILSeaWatches$Offs;I)I").map (fun d => d.parameters.length) = some 3 := by decide +kernel
theorem pd_20 : (parseMethodDescriptor "(III)V").map (fun d => d.parameters.length) = some 3 := by decide +kernel
theorem pd_21 : (parseMethodDescriptor "(LSeaWatches$Ship;I)I").map (fun d => d.parameters.length) = some 2 := by decide +kernel
theorem pd_22 : (parseMethodDescriptor "(IIIII)I").map (fun d => d.parameters.length) = some 5 := by decide +kernel
theorem pd_23 : (parseMethodDescriptor "(LSeaWatches$Watch;)V").map (fun d => d.parameters.length) = some 1 := by decide +kernel
theorem pd_24 : (parseMethodDescriptor "(III)Z").map (fun d => d.parameters.length) = some 3 := by decide +kernel
theorem pd_25 : (parseMethodDescriptor "(LSeaWatches$Ship;II)V").map (fun d => d.parameters.length) = some 3 := by decide +kernel
theorem pd_26 : (parseMethodDescriptor "(I)LSeaWatches$Watch;").map (fun d => d.parameters.length) = some 1 := by decide +kernel
theorem pd_27 : (parseMethodDescriptor "(JJJJ)V").map (fun d => d.parameters.length) = some 4 := by decide +kernel
theorem pd_28 : (parseMethodDescriptor "(JJ)J").map (fun d => d.parameters.length) = some 2 := by decide +kernel
theorem pd_29 : (parseMethodDescriptor "()J").map (fun d => d.parameters.length) = some 0 := by decide +kernel
theorem pd_30 : (parseMethodDescriptor "(JI)I").map (fun d => d.parameters.length) = some 2 := by decide +kernel
theorem ok_X0_add : yOk yX0_add 1 := ⟨nc_0.1, nc_0.2, pd_0⟩
theorem ok_X0_init : yOk yX0_init 0 := ⟨nc_0.1, nc_0.2, pd_1⟩
theorem ok_X0_keepIfBetter : yOk yX0_keepIfBetter 0 := ⟨nc_0.1, nc_0.2, pd_1⟩
theorem ok_X0_secondLeast : yOk yX0_secondLeast 1 := ⟨nc_0.1, nc_0.2, pd_2⟩
theorem ok_X0_shareOut : yOk yX0_shareOut 4 := ⟨nc_0.1, nc_0.2, pd_3⟩
theorem ok_X0_tryFrom : yOk yX0_tryFrom 2 := ⟨nc_0.1, nc_0.2, pd_4⟩
theorem ok_X1_add : yOk yX1_add 3 := ⟨nc_1.1, nc_1.2, pd_5⟩
theorem ok_X1_addProduct : yOk yX1_addProduct 2 := ⟨nc_1.1, nc_1.2, pd_6⟩
theorem ok_X1_clear : yOk yX1_clear 0 := ⟨nc_1.1, nc_1.2, pd_1⟩
theorem ok_X1_form : yOk yX1_form 0 := ⟨nc_1.1, nc_1.2, pd_7⟩
theorem ok_X1_init : yOk yX1_init 0 := ⟨nc_1.1, nc_1.2, pd_1⟩
theorem ok_X1_setLaw : yOk yX1_setLaw 4 := ⟨nc_1.1, nc_1.2, pd_8⟩
theorem ok_X1_size : yOk yX1_size 0 := ⟨nc_1.1, nc_1.2, pd_7⟩
theorem ok_X1_solve : yOk yX1_solve 0 := ⟨nc_1.1, nc_1.2, pd_1⟩
theorem ok_X1_thousandfold : yOk yX1_thousandfold 2 := ⟨nc_1.1, nc_1.2, pd_9⟩
theorem ok_X2_add : yOk yX2_add 5 := ⟨nc_2.1, nc_2.2, pd_10⟩
theorem ok_X2_init : yOk yX2_init 0 := ⟨nc_2.1, nc_2.2, pd_1⟩
theorem ok_X2_sumFor : yOk yX2_sumFor 3 := ⟨nc_2.1, nc_2.2, pd_11⟩
theorem ok_X3_dayFarthestOff : yOk yX3_dayFarthestOff 1 := ⟨nc_3.1, nc_3.2, pd_2⟩
theorem ok_X3_drift : yOk yX3_drift 0 := ⟨nc_3.1, nc_3.2, pd_7⟩
theorem ok_X3_gather : yOk yX3_gather 4 := ⟨nc_3.1, nc_3.2, pd_12⟩
theorem ok_X3_greatestStep : yOk yX3_greatestStep 0 := ⟨nc_3.1, nc_3.2, pd_7⟩
theorem ok_X3_init : yOk yX3_init 0 := ⟨nc_3.1, nc_3.2, pd_1⟩
theorem ok_X3_least : yOk yX3_least 0 := ⟨nc_3.1, nc_3.2, pd_7⟩
theorem ok_X3_middleOne : yOk yX3_middleOne 0 := ⟨nc_3.1, nc_3.2, pd_7⟩
theorem ok_X3_most : yOk yX3_most 0 := ⟨nc_3.1, nc_3.2, pd_7⟩
theorem ok_X3_sum : yOk yX3_sum 0 := ⟨nc_3.1, nc_3.2, pd_7⟩
theorem ok_X4_add : yOk yX4_add 2 := ⟨nc_4.1, nc_4.2, pd_4⟩
theorem ok_X4_init : yOk yX4_init 0 := ⟨nc_4.1, nc_4.2, pd_1⟩
theorem ok_X4_isAhead : yOk yX4_isAhead 1 := ⟨nc_4.1, nc_4.2, pd_13⟩
theorem ok_X4_workOut : yOk yX4_workOut 1 := ⟨nc_4.1, nc_4.2, pd_14⟩
theorem ok_X4_workOutOne : yOk yX4_workOutOne 2 := ⟨nc_4.1, nc_4.2, pd_15⟩
theorem ok_X4_workOutTwo : yOk yX4_workOutTwo 3 := ⟨nc_4.1, nc_4.2, pd_11⟩
theorem ok_X5_addSight : yOk yX5_addSight 4 := ⟨nc_5.1, nc_5.2, pd_3⟩
theorem ok_X5_beginOf : yOk yX5_beginOf 2 := ⟨nc_5.1, nc_5.2, pd_15⟩
theorem ok_X5_carry : yOk yX5_carry 5 := ⟨nc_5.1, nc_5.2, pd_10⟩
theorem ok_X5_comeBack : yOk yX5_comeBack 1 := ⟨nc_5.1, nc_5.2, pd_0⟩
theorem ok_X5_daysSince : yOk yX5_daysSince 1 := ⟨nc_5.1, nc_5.2, pd_2⟩
theorem ok_X5_endOf : yOk yX5_endOf 2 := ⟨nc_5.1, nc_5.2, pd_15⟩
theorem ok_X5_init : yOk yX5_init 0 := ⟨nc_5.1, nc_5.2, pd_1⟩
theorem ok_X5_isOf : yOk yX5_isOf 2 := ⟨nc_5.1, nc_5.2, pd_16⟩
theorem ok_X5_leave : yOk yX5_leave 1 := ⟨nc_5.1, nc_5.2, pd_0⟩
theorem ok_X5_mayBeSighted : yOk yX5_mayBeSighted 1 := ⟨nc_5.1, nc_5.2, pd_13⟩
theorem ok_X5_offFromOthers : yOk yX5_offFromOthers 2 := ⟨nc_5.1, nc_5.2, pd_15⟩
theorem ok_X5_timeOf : yOk yX5_timeOf 2 := ⟨nc_5.1, nc_5.2, pd_15⟩
theorem ok_X5_widthOf : yOk yX5_widthOf 2 := ⟨nc_5.1, nc_5.2, pd_15⟩
theorem ok_X6_add : yOk yX6_add 1 := ⟨nc_6.1, nc_6.2, pd_0⟩
theorem ok_X6_exchangeRule : yOk yX6_exchangeRule 1 := ⟨nc_6.1, nc_6.2, pd_17⟩
theorem ok_X6_goOn : yOk yX6_goOn 0 := ⟨nc_6.1, nc_6.2, pd_1⟩
theorem ok_X6_init : yOk yX6_init 0 := ⟨nc_6.1, nc_6.2, pd_1⟩
theorem ok_X6_isDigit : yOk yX6_isDigit 1 := ⟨nc_6.1, nc_6.2, pd_13⟩
theorem ok_X6_isLetter : yOk yX6_isLetter 1 := ⟨nc_6.1, nc_6.2, pd_13⟩
theorem ok_X6_isOnTape : yOk yX6_isOnTape 2 := ⟨nc_6.1, nc_6.2, pd_16⟩
theorem ok_X6_isSign : yOk yX6_isSign 1 := ⟨nc_6.1, nc_6.2, pd_13⟩
theorem ok_X6_placeAmongWords : yOk yX6_placeAmongWords 0 := ⟨nc_6.1, nc_6.2, pd_7⟩
theorem ok_X6_readAsRule : yOk yX6_readAsRule 1 := ⟨nc_6.1, nc_6.2, pd_18⟩
theorem ok_X6_readBoth : yOk yX6_readBoth 1 := ⟨nc_6.1, nc_6.2, pd_13⟩
theorem ok_X6_readComparison : yOk yX6_readComparison 1 := ⟨nc_6.1, nc_6.2, pd_13⟩
theorem ok_X6_readEither : yOk yX6_readEither 1 := ⟨nc_6.1, nc_6.2, pd_13⟩
theorem ok_X6_readInBrackets : yOk yX6_readInBrackets 1 := ⟨nc_6.1, nc_6.2, pd_13⟩
theorem ok_X6_readNegation : yOk yX6_readNegation 1 := ⟨nc_6.1, nc_6.2, pd_13⟩
theorem ok_X6_readOperand : yOk yX6_readOperand 1 := ⟨nc_6.1, nc_6.2, pd_13⟩
theorem ok_X6_readProduct : yOk yX6_readProduct 1 := ⟨nc_6.1, nc_6.2, pd_13⟩
theorem ok_X6_readSum : yOk yX6_readSum 1 := ⟨nc_6.1, nc_6.2, pd_13⟩
theorem ok_X6_takeDigits : yOk yX6_takeDigits 0 := ⟨nc_6.1, nc_6.2, pd_1⟩
theorem ok_X6_takeLetters : yOk yX6_takeLetters 0 := ⟨nc_6.1, nc_6.2, pd_1⟩
theorem ok_X7_addMark : yOk yX7_addMark 2 := ⟨nc_7.1, nc_7.2, pd_16⟩
theorem ok_X7_ageOn : yOk yX7_ageOn 1 := ⟨nc_7.1, nc_7.2, pd_2⟩
theorem ok_X7_becomeNew : yOk yX7_becomeNew 0 := ⟨nc_7.1, nc_7.2, pd_1⟩
theorem ok_X7_daysAway : yOk yX7_daysAway 1 := ⟨nc_7.1, nc_7.2, pd_2⟩
theorem ok_X7_errorAsKnown : yOk yX7_errorAsKnown 3 := ⟨nc_7.1, nc_7.2, pd_19⟩
theorem ok_X7_giveTo : yOk yX7_giveTo 2 := ⟨nc_7.1, nc_7.2, pd_4⟩
theorem ok_X7_holderOn : yOk yX7_holderOn 1 := ⟨nc_7.1, nc_7.2, pd_2⟩
theorem ok_X7_init : yOk yX7_init 0 := ⟨nc_7.1, nc_7.2, pd_1⟩
theorem ok_X7_isCompared : yOk yX7_isCompared 1 := ⟨nc_7.1, nc_7.2, pd_13⟩
theorem ok_X7_isMarked : yOk yX7_isMarked 2 := ⟨nc_7.1, nc_7.2, pd_16⟩
theorem ok_X7_rateAsKnown : yOk yX7_rateAsKnown 3 := ⟨nc_7.1, nc_7.2, pd_19⟩
theorem ok_X7_rateBetween : yOk yX7_rateBetween 3 := ⟨nc_7.1, nc_7.2, pd_11⟩
theorem ok_X7_tell : yOk yX7_tell 3 := ⟨nc_7.1, nc_7.2, pd_20⟩
theorem ok_X8_age : yOk yX8_age 2 := ⟨nc_8.1, nc_8.2, pd_15⟩
theorem ok_X8_away : yOk yX8_away 1 := ⟨nc_8.1, nc_8.2, pd_2⟩
theorem ok_X8_back : yOk yX8_back 4 := ⟨nc_8.1, nc_8.2, pd_3⟩
theorem ok_X8_board : yOk yX8_board 3 := ⟨nc_8.1, nc_8.2, pd_20⟩
theorem ok_X8_bringWatch : yOk yX8_bringWatch 1 := ⟨nc_8.1, nc_8.2, pd_0⟩
theorem ok_X8_carried : yOk yX8_carried 3 := ⟨nc_8.1, nc_8.2, pd_11⟩
theorem ok_X8_changed : yOk yX8_changed 4 := ⟨nc_8.1, nc_8.2, pd_3⟩
theorem ok_X8_compare : yOk yX8_compare 4 := ⟨nc_8.1, nc_8.2, pd_3⟩
theorem ok_X8_count : yOk yX8_count 1 := ⟨nc_8.1, nc_8.2, pd_2⟩
theorem ok_X8_days : yOk yX8_days 1 := ⟨nc_8.1, nc_8.2, pd_2⟩
theorem ok_X8_deal : yOk yX8_deal 3 := ⟨nc_8.1, nc_8.2, pd_11⟩
theorem ok_X8_dealt : yOk yX8_dealt 1 := ⟨nc_8.1, nc_8.2, pd_2⟩
theorem ok_X8_doubt : yOk yX8_doubt 1 := ⟨nc_8.1, nc_8.2, pd_2⟩
theorem ok_X8_droppedOf : yOk yX8_droppedOf 2 := ⟨nc_8.1, nc_8.2, pd_21⟩
theorem ok_X8_error : yOk yX8_error 3 := ⟨nc_8.1, nc_8.2, pd_11⟩
theorem ok_X8_feed : yOk yX8_feed 2 := ⟨nc_8.1, nc_8.2, pd_15⟩
theorem ok_X8_firstLack : yOk yX8_firstLack 3 := ⟨nc_8.1, nc_8.2, pd_11⟩
theorem ok_X8_fitLaw : yOk yX8_fitLaw 3 := ⟨nc_8.1, nc_8.2, pd_20⟩
theorem ok_X8_fitsKind : yOk yX8_fitsKind 2 := ⟨nc_8.1, nc_8.2, pd_16⟩
theorem ok_X8_foretold : yOk yX8_foretold 5 := ⟨nc_8.1, nc_8.2, pd_22⟩
theorem ok_X8_gatherBeforeSailing : yOk yX8_gatherBeforeSailing 1 := ⟨nc_8.1, nc_8.2, pd_23⟩
theorem ok_X8_hasTrial : yOk yX8_hasTrial 3 := ⟨nc_8.1, nc_8.2, pd_24⟩
theorem ok_X8_holder : yOk yX8_holder 2 := ⟨nc_8.1, nc_8.2, pd_15⟩
theorem ok_X8_holds : yOk yX8_holds 1 := ⟨nc_8.1, nc_8.2, pd_2⟩
theorem ok_X8_home : yOk yX8_home 1 := ⟨nc_8.1, nc_8.2, pd_2⟩
theorem ok_X8_init : yOk yX8_init 0 := ⟨nc_8.1, nc_8.2, pd_1⟩
theorem ok_X8_isDay : yOk yX8_isDay 1 := ⟨nc_8.1, nc_8.2, pd_13⟩
theorem ok_X8_isFitToSail : yOk yX8_isFitToSail 1 := ⟨nc_8.1, nc_8.2, pd_13⟩
theorem ok_X8_isKnowledge : yOk yX8_isKnowledge 1 := ⟨nc_8.1, nc_8.2, pd_13⟩
theorem ok_X8_isPast : yOk yX8_isPast 1 := ⟨nc_8.1, nc_8.2, pd_13⟩
theorem ok_X8_isPlace : yOk yX8_isPlace 1 := ⟨nc_8.1, nc_8.2, pd_13⟩
theorem ok_X8_isShip : yOk yX8_isShip 1 := ⟨nc_8.1, nc_8.2, pd_13⟩
theorem ok_X8_isStretch : yOk yX8_isStretch 2 := ⟨nc_8.1, nc_8.2, pd_16⟩
theorem ok_X8_isWithin : yOk yX8_isWithin 2 := ⟨nc_8.1, nc_8.2, pd_16⟩
theorem ok_X8_jump : yOk yX8_jump 4 := ⟨nc_8.1, nc_8.2, pd_3⟩
theorem ok_X8_lackAt : yOk yX8_lackAt 1 := ⟨nc_8.1, nc_8.2, pd_2⟩
theorem ok_X8_late : yOk yX8_late 2 := ⟨nc_8.1, nc_8.2, pd_15⟩
theorem ok_X8_law : yOk yX8_law 3 := ⟨nc_8.1, nc_8.2, pd_11⟩
theorem ok_X8_lend : yOk yX8_lend 2 := ⟨nc_8.1, nc_8.2, pd_15⟩
theorem ok_X8_markOn : yOk yX8_markOn 3 := ⟨nc_8.1, nc_8.2, pd_11⟩
theorem ok_X8_off : yOk yX8_off 4 := ⟨nc_8.1, nc_8.2, pd_3⟩
theorem ok_X8_order : yOk yX8_order 3 := ⟨nc_8.1, nc_8.2, pd_11⟩
theorem ok_X8_placesWith : yOk yX8_placesWith 1 := ⟨nc_8.1, nc_8.2, pd_2⟩
theorem ok_X8_put : yOk yX8_put 3 := ⟨nc_8.1, nc_8.2, pd_11⟩
theorem ok_X8_rate : yOk yX8_rate 3 := ⟨nc_8.1, nc_8.2, pd_11⟩
theorem ok_X8_read : yOk yX8_read 1 := ⟨nc_8.1, nc_8.2, pd_2⟩
theorem ok_X8_refusalOfStretch : yOk yX8_refusalOfStretch 3 := ⟨nc_8.1, nc_8.2, pd_11⟩
theorem ok_X8_repair : yOk yX8_repair 2 := ⟨nc_8.1, nc_8.2, pd_15⟩
theorem ok_X8_rule : yOk yX8_rule 1 := ⟨nc_8.1, nc_8.2, pd_2⟩
theorem ok_X8_sail : yOk yX8_sail 4 := ⟨nc_8.1, nc_8.2, pd_3⟩
theorem ok_X8_shipsAtSea : yOk yX8_shipsAtSea 0 := ⟨nc_8.1, nc_8.2, pd_7⟩
theorem ok_X8_sight : yOk yX8_sight 5 := ⟨nc_8.1, nc_8.2, pd_22⟩
theorem ok_X8_state : yOk yX8_state 1 := ⟨nc_8.1, nc_8.2, pd_2⟩
theorem ok_X8_take : yOk yX8_take 1 := ⟨nc_8.1, nc_8.2, pd_2⟩
theorem ok_X8_terms : yOk yX8_terms 3 := ⟨nc_8.1, nc_8.2, pd_11⟩
theorem ok_X8_told : yOk yX8_told 3 := ⟨nc_8.1, nc_8.2, pd_11⟩
theorem ok_X8_trial : yOk yX8_trial 3 := ⟨nc_8.1, nc_8.2, pd_11⟩
theorem ok_X8_unload : yOk yX8_unload 3 := ⟨nc_8.1, nc_8.2, pd_25⟩
theorem ok_X8_warmth : yOk yX8_warmth 2 := ⟨nc_8.1, nc_8.2, pd_15⟩
theorem ok_X8_warmthFor : yOk yX8_warmthFor 2 := ⟨nc_8.1, nc_8.2, pd_15⟩
theorem ok_X8_warmthSpan : yOk yX8_warmthSpan 1 := ⟨nc_8.1, nc_8.2, pd_2⟩
theorem ok_X8_watchAt : yOk yX8_watchAt 1 := ⟨nc_8.1, nc_8.2, pd_26⟩
theorem ok_X8_workOutTrial : yOk yX8_workOutTrial 2 := ⟨nc_8.1, nc_8.2, pd_15⟩
theorem ok_X9_advance : yOk yX9_advance 1 := ⟨nc_9.1, nc_9.2, pd_0⟩
theorem ok_X9_age : yOk yX9_age 2 := ⟨nc_9.1, nc_9.2, pd_15⟩
theorem ok_X9_ageOf : yOk yX9_ageOf 2 := ⟨nc_9.1, nc_9.2, pd_15⟩
theorem ok_X9_areDays : yOk yX9_areDays 2 := ⟨nc_9.1, nc_9.2, pd_16⟩
theorem ok_X9_asked : yOk yX9_asked 3 := ⟨nc_9.1, nc_9.2, pd_11⟩
theorem ok_X9_away : yOk yX9_away 1 := ⟨nc_9.1, nc_9.2, pd_2⟩
theorem ok_X9_back : yOk yX9_back 4 := ⟨nc_9.1, nc_9.2, pd_3⟩
theorem ok_X9_both : yOk yX9_both 3 := ⟨nc_9.1, nc_9.2, pd_11⟩
theorem ok_X9_byThree : yOk yX9_byThree 2 := ⟨nc_9.1, nc_9.2, pd_6⟩
theorem ok_X9_byTwo : yOk yX9_byTwo 4 := ⟨nc_9.1, nc_9.2, pd_27⟩
theorem ok_X9_carried : yOk yX9_carried 3 := ⟨nc_9.1, nc_9.2, pd_11⟩
theorem ok_X9_changed : yOk yX9_changed 4 := ⟨nc_9.1, nc_9.2, pd_3⟩
theorem ok_X9_compare : yOk yX9_compare 4 := ⟨nc_9.1, nc_9.2, pd_3⟩
theorem ok_X9_count : yOk yX9_count 1 := ⟨nc_9.1, nc_9.2, pd_2⟩
theorem ok_X9_days : yOk yX9_days 1 := ⟨nc_9.1, nc_9.2, pd_2⟩
theorem ok_X9_deal : yOk yX9_deal 3 := ⟨nc_9.1, nc_9.2, pd_11⟩
theorem ok_X9_dealt : yOk yX9_dealt 1 := ⟨nc_9.1, nc_9.2, pd_2⟩
theorem ok_X9_done : yOk yX9_done 1 := ⟨nc_9.1, nc_9.2, pd_0⟩
theorem ok_X9_doubt : yOk yX9_doubt 1 := ⟨nc_9.1, nc_9.2, pd_2⟩
theorem ok_X9_error : yOk yX9_error 3 := ⟨nc_9.1, nc_9.2, pd_11⟩
theorem ok_X9_errorOf : yOk yX9_errorOf 3 := ⟨nc_9.1, nc_9.2, pd_11⟩
theorem ok_X9_feed : yOk yX9_feed 2 := ⟨nc_9.1, nc_9.2, pd_15⟩
theorem ok_X9_findRates : yOk yX9_findRates 3 := ⟨nc_9.1, nc_9.2, pd_20⟩
theorem ok_X9_floor : yOk yX9_floor 2 := ⟨nc_9.1, nc_9.2, pd_28⟩
theorem ok_X9_foretold : yOk yX9_foretold 5 := ⟨nc_9.1, nc_9.2, pd_22⟩
theorem ok_X9_goesTo : yOk yX9_goesTo 2 := ⟨nc_9.1, nc_9.2, pd_4⟩
theorem ok_X9_hasTrial : yOk yX9_hasTrial 3 := ⟨nc_9.1, nc_9.2, pd_24⟩
theorem ok_X9_holder : yOk yX9_holder 2 := ⟨nc_9.1, nc_9.2, pd_15⟩
theorem ok_X9_holderNow : yOk yX9_holderNow 1 := ⟨nc_9.1, nc_9.2, pd_2⟩
theorem ok_X9_holds : yOk yX9_holds 1 := ⟨nc_9.1, nc_9.2, pd_2⟩
theorem ok_X9_home : yOk yX9_home 1 := ⟨nc_9.1, nc_9.2, pd_2⟩
theorem ok_X9_in : yOk yX9_in 3 := ⟨nc_9.1, nc_9.2, pd_24⟩
theorem ok_X9_init : yOk yX9_init 0 := ⟨nc_9.1, nc_9.2, pd_1⟩
theorem ok_X9_isDay : yOk yX9_isDay 1 := ⟨nc_9.1, nc_9.2, pd_13⟩
theorem ok_X9_isDigit : yOk yX9_isDigit 1 := ⟨nc_9.1, nc_9.2, pd_13⟩
theorem ok_X9_isKnown : yOk yX9_isKnown 1 := ⟨nc_9.1, nc_9.2, pd_13⟩
theorem ok_X9_isLetter : yOk yX9_isLetter 1 := ⟨nc_9.1, nc_9.2, pd_13⟩
theorem ok_X9_isPlace : yOk yX9_isPlace 1 := ⟨nc_9.1, nc_9.2, pd_13⟩
theorem ok_X9_isShip : yOk yX9_isShip 1 := ⟨nc_9.1, nc_9.2, pd_13⟩
theorem ok_X9_isShown : yOk yX9_isShown 1 := ⟨nc_9.1, nc_9.2, pd_13⟩
theorem ok_X9_isWatch : yOk yX9_isWatch 1 := ⟨nc_9.1, nc_9.2, pd_13⟩
theorem ok_X9_isWay : yOk yX9_isWay 1 := ⟨nc_9.1, nc_9.2, pd_13⟩
theorem ok_X9_jump : yOk yX9_jump 4 := ⟨nc_9.1, nc_9.2, pd_3⟩
theorem ok_X9_late : yOk yX9_late 2 := ⟨nc_9.1, nc_9.2, pd_15⟩
theorem ok_X9_law : yOk yX9_law 3 := ⟨nc_9.1, nc_9.2, pd_11⟩
theorem ok_X9_lay : yOk yX9_lay 2 := ⟨nc_9.1, nc_9.2, pd_4⟩
theorem ok_X9_lend : yOk yX9_lend 2 := ⟨nc_9.1, nc_9.2, pd_15⟩
theorem ok_X9_maySail : yOk yX9_maySail 1 := ⟨nc_9.1, nc_9.2, pd_13⟩
theorem ok_X9_off : yOk yX9_off 4 := ⟨nc_9.1, nc_9.2, pd_3⟩
theorem ok_X9_opened : yOk yX9_opened 0 := ⟨nc_9.1, nc_9.2, pd_7⟩
theorem ok_X9_order : yOk yX9_order 3 := ⟨nc_9.1, nc_9.2, pd_11⟩
theorem ok_X9_put : yOk yX9_put 3 := ⟨nc_9.1, nc_9.2, pd_11⟩
theorem ok_X9_rate : yOk yX9_rate 3 := ⟨nc_9.1, nc_9.2, pd_11⟩
theorem ok_X9_rateOf : yOk yX9_rateOf 3 := ⟨nc_9.1, nc_9.2, pd_11⟩
theorem ok_X9_read : yOk yX9_read 1 := ⟨nc_9.1, nc_9.2, pd_2⟩
theorem ok_X9_readRule : yOk yX9_readRule 1 := ⟨nc_9.1, nc_9.2, pd_2⟩
theorem ok_X9_repair : yOk yX9_repair 2 := ⟨nc_9.1, nc_9.2, pd_15⟩
theorem ok_X9_rule : yOk yX9_rule 1 := ⟨nc_9.1, nc_9.2, pd_2⟩
theorem ok_X9_sail : yOk yX9_sail 4 := ⟨nc_9.1, nc_9.2, pd_3⟩
theorem ok_X9_says : yOk yX9_says 1 := ⟨nc_9.1, nc_9.2, pd_2⟩
theorem ok_X9_secondOf : yOk yX9_secondOf 1 := ⟨nc_9.1, nc_9.2, pd_2⟩
theorem ok_X9_sight : yOk yX9_sight 5 := ⟨nc_9.1, nc_9.2, pd_22⟩
theorem ok_X9_signOf : yOk yX9_signOf 1 := ⟨nc_9.1, nc_9.2, pd_2⟩
theorem ok_X9_size : yOk yX9_size 1 := ⟨nc_9.1, nc_9.2, pd_2⟩
theorem ok_X9_state : yOk yX9_state 1 := ⟨nc_9.1, nc_9.2, pd_2⟩
theorem ok_X9_sumUp : yOk yX9_sumUp 3 := ⟨nc_9.1, nc_9.2, pd_20⟩
theorem ok_X9_take : yOk yX9_take 1 := ⟨nc_9.1, nc_9.2, pd_2⟩
theorem ok_X9_terms : yOk yX9_terms 3 := ⟨nc_9.1, nc_9.2, pd_11⟩
theorem ok_X9_termsNow : yOk yX9_termsNow 0 := ⟨nc_9.1, nc_9.2, pd_7⟩
theorem ok_X9_three : yOk yX9_three 0 := ⟨nc_9.1, nc_9.2, pd_29⟩
theorem ok_X9_tight : yOk yX9_tight 1 := ⟨nc_9.1, nc_9.2, pd_2⟩
theorem ok_X9_told : yOk yX9_told 3 := ⟨nc_9.1, nc_9.2, pd_11⟩
theorem ok_X9_trial : yOk yX9_trial 3 := ⟨nc_9.1, nc_9.2, pd_11⟩
theorem ok_X9_trialOf : yOk yX9_trialOf 3 := ⟨nc_9.1, nc_9.2, pd_11⟩
theorem ok_X9_two : yOk yX9_two 2 := ⟨nc_9.1, nc_9.2, pd_28⟩
theorem ok_X9_warmth : yOk yX9_warmth 2 := ⟨nc_9.1, nc_9.2, pd_15⟩
theorem ok_X9_warmthOf : yOk yX9_warmthOf 2 := ⟨nc_9.1, nc_9.2, pd_15⟩
theorem ok_X9_watchAt : yOk yX9_watchAt 1 := ⟨nc_9.1, nc_9.2, pd_2⟩
theorem ok_X9_wordOf : yOk yX9_wordOf 2 := ⟨nc_9.1, nc_9.2, pd_30⟩
theorem ok_X9_work : yOk yX9_work 2 := ⟨nc_9.1, nc_9.2, pd_15⟩
end
