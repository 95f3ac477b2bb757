section
-- ===== PART A: goes FIRST, ahead of the names: the tables' words, and 'selects' of the private methods out of them =====
/-- a private method of a class that the tables say can be made, by its rows of tables_1 -/
def lw_okq (q : MethodName × Nat) : Prop := (q.1.cls ≠ "java/lang/invoke/MethodHandle" ∧ q.1.cls ≠ "java/lang/invoke/VarHandle") ∧ Cond.instantiable q.1.cls q.2 ∈ tables_1 ∧ Cond.privateMethod q.1 ∈ tables_1 ∧ Cond.instanceMethod q.1 ∈ tables_1
theorem lw_p0 : lw_okq (⟨"LateDoves", "save", "()V"⟩, 9) := ⟨⟨by decide +kernel, by decide +kernel⟩, List.mem_of_getElem? (i := 15) (by decide +kernel), List.mem_of_getElem? (i := 146) (by decide +kernel), List.mem_of_getElem? (i := 147) (by decide +kernel)⟩
theorem lw_p1 : lw_okq (⟨"LateDoves$Cote", "countAtDawn", "(I)V"⟩, 10) := ⟨⟨by decide +kernel, by decide +kernel⟩, List.mem_of_getElem? (i := 23) (by decide +kernel), List.mem_of_getElem? (i := 170) (by decide +kernel), List.mem_of_getElem? (i := 171) (by decide +kernel)⟩
theorem lw_p2 : lw_okq (⟨"LateDoves$PartReader", "takeLetter", "(I)Z"⟩, 4) := ⟨⟨by decide +kernel, by decide +kernel⟩, List.mem_of_getElem? (i := 92) (by decide +kernel), List.mem_of_getElem? (i := 190) (by decide +kernel), List.mem_of_getElem? (i := 191) (by decide +kernel)⟩
theorem lw_p3 : lw_okq (⟨"LateDoves$PartReader", "takeEnd", "()Z"⟩, 4) := ⟨⟨by decide +kernel, by decide +kernel⟩, List.mem_of_getElem? (i := 92) (by decide +kernel), List.mem_of_getElem? (i := 194) (by decide +kernel), List.mem_of_getElem? (i := 195) (by decide +kernel)⟩
theorem lw_p4 : lw_okq (⟨"LateDoves$PartReader", "signBehindFirst", "()I"⟩, 4) := ⟨⟨by decide +kernel, by decide +kernel⟩, List.mem_of_getElem? (i := 92) (by decide +kernel), List.mem_of_getElem? (i := 202) (by decide +kernel), List.mem_of_getElem? (i := 203) (by decide +kernel)⟩
theorem lw_p5 : lw_okq (⟨"LateDoves$PartReader", "takeDigit", "(I)Z"⟩, 4) := ⟨⟨by decide +kernel, by decide +kernel⟩, List.mem_of_getElem? (i := 92) (by decide +kernel), List.mem_of_getElem? (i := 207) (by decide +kernel), List.mem_of_getElem? (i := 208) (by decide +kernel)⟩
theorem lw_p6 : lw_okq (⟨"LateDoves$PartReader", "highestFirst", "()I"⟩, 4) := ⟨⟨by decide +kernel, by decide +kernel⟩, List.mem_of_getElem? (i := 92) (by decide +kernel), List.mem_of_getElem? (i := 214) (by decide +kernel), List.mem_of_getElem? (i := 215) (by decide +kernel)⟩
theorem lw_p7 : lw_okq (⟨"LateDoves$PartReader", "lowestSecond", "()I"⟩, 4) := ⟨⟨by decide +kernel, by decide +kernel⟩, List.mem_of_getElem? (i := 92) (by decide +kernel), List.mem_of_getElem? (i := 218) (by decide +kernel), List.mem_of_getElem? (i := 219) (by decide +kernel)⟩
theorem lw_p8 : lw_okq (⟨"LateDoves$PartReader", "highestSecond", "()I"⟩, 4) := ⟨⟨by decide +kernel, by decide +kernel⟩, List.mem_of_getElem? (i := 92) (by decide +kernel), List.mem_of_getElem? (i := 222) (by decide +kernel), List.mem_of_getElem? (i := 223) (by decide +kernel)⟩
theorem lw_p9 : lw_okq (⟨"LateDoves$PartReader", "takeSign", "(I)Z"⟩, 4) := ⟨⟨by decide +kernel, by decide +kernel⟩, List.mem_of_getElem? (i := 92) (by decide +kernel), List.mem_of_getElem? (i := 226) (by decide +kernel), List.mem_of_getElem? (i := 227) (by decide +kernel)⟩
theorem lw_p10 : lw_okq (⟨"LateDoves", "sittingIfAllCame", "(I)I"⟩, 9) := ⟨⟨by decide +kernel, by decide +kernel⟩, List.mem_of_getElem? (i := 15) (by decide +kernel), List.mem_of_getElem? (i := 249) (by decide +kernel), List.mem_of_getElem? (i := 250) (by decide +kernel)⟩
theorem lw_p11 : lw_okq (⟨"LateDoves$Cote", "enterOwnHole", "(IZ)I"⟩, 10) := ⟨⟨by decide +kernel, by decide +kernel⟩, List.mem_of_getElem? (i := 23) (by decide +kernel), List.mem_of_getElem? (i := 259) (by decide +kernel), List.mem_of_getElem? (i := 260) (by decide +kernel)⟩
theorem lw_p12 : lw_okq (⟨"LateDoves$Cote", "shiftFrom", "(II)I"⟩, 10) := ⟨⟨by decide +kernel, by decide +kernel⟩, List.mem_of_getElem? (i := 23) (by decide +kernel), List.mem_of_getElem? (i := 263) (by decide +kernel), List.mem_of_getElem? (i := 264) (by decide +kernel)⟩
theorem lw_p13 : lw_okq (⟨"LateDoves$Cote", "sit", "(II)V"⟩, 10) := ⟨⟨by decide +kernel, by decide +kernel⟩, List.mem_of_getElem? (i := 23) (by decide +kernel), List.mem_of_getElem? (i := 267) (by decide +kernel), List.mem_of_getElem? (i := 268) (by decide +kernel)⟩
theorem lw_p14 : lw_okq (⟨"LateDoves$Cote", "settle", "(IZ)I"⟩, 10) := ⟨⟨by decide +kernel, by decide +kernel⟩, List.mem_of_getElem? (i := 23) (by decide +kernel), List.mem_of_getElem? (i := 275) (by decide +kernel), List.mem_of_getElem? (i := 276) (by decide +kernel)⟩
theorem lw_p15 : lw_okq (⟨"LateDoves$Cote", "firstFreeFor", "(I)I"⟩, 10) := ⟨⟨by decide +kernel, by decide +kernel⟩, List.mem_of_getElem? (i := 23) (by decide +kernel), List.mem_of_getElem? (i := 279) (by decide +kernel), List.mem_of_getElem? (i := 280) (by decide +kernel)⟩
def lw_privs_1 : List (MethodName × Nat) := [(⟨"LateDoves", "save", "()V"⟩, 9), (⟨"LateDoves$Cote", "countAtDawn", "(I)V"⟩, 10), (⟨"LateDoves$PartReader", "takeLetter", "(I)Z"⟩, 4), (⟨"LateDoves$PartReader", "takeEnd", "()Z"⟩, 4), (⟨"LateDoves$PartReader", "signBehindFirst", "()I"⟩, 4), (⟨"LateDoves$PartReader", "takeDigit", "(I)Z"⟩, 4), (⟨"LateDoves$PartReader", "highestFirst", "()I"⟩, 4), (⟨"LateDoves$PartReader", "lowestSecond", "()I"⟩, 4), (⟨"LateDoves$PartReader", "highestSecond", "()I"⟩, 4), (⟨"LateDoves$PartReader", "takeSign", "(I)Z"⟩, 4), (⟨"LateDoves", "sittingIfAllCame", "(I)I"⟩, 9), (⟨"LateDoves$Cote", "enterOwnHole", "(IZ)I"⟩, 10), (⟨"LateDoves$Cote", "shiftFrom", "(II)I"⟩, 10), (⟨"LateDoves$Cote", "sit", "(II)V"⟩, 10), (⟨"LateDoves$Cote", "settle", "(IZ)I"⟩, 10), (⟨"LateDoves$Cote", "firstFreeFor", "(I)I"⟩, 10)]
theorem lw_r1 : ∀ q ∈ lw_privs_1, lw_okq q := List.forall_mem_cons.mpr ⟨lw_p0, List.forall_mem_cons.mpr ⟨lw_p1, List.forall_mem_cons.mpr ⟨lw_p2, List.forall_mem_cons.mpr ⟨lw_p3, List.forall_mem_cons.mpr ⟨lw_p4, List.forall_mem_cons.mpr ⟨lw_p5, List.forall_mem_cons.mpr ⟨lw_p6, List.forall_mem_cons.mpr ⟨lw_p7, List.forall_mem_cons.mpr ⟨lw_p8, List.forall_mem_cons.mpr ⟨lw_p9, List.forall_mem_cons.mpr ⟨lw_p10, List.forall_mem_cons.mpr ⟨lw_p11, List.forall_mem_cons.mpr ⟨lw_p12, List.forall_mem_cons.mpr ⟨lw_p13, List.forall_mem_cons.mpr ⟨lw_p14, List.forall_mem_cons.mpr ⟨lw_p15, fun _ h => absurd h List.not_mem_nil⟩⟩⟩⟩⟩⟩⟩⟩⟩⟩⟩⟩⟩⟩⟩⟩
theorem lw_p16 : lw_okq (⟨"java/lang/Throwable", "fillInStackTrace", "(I)Ljava/lang/Throwable;"⟩, 6) := ⟨⟨by decide +kernel, by decide +kernel⟩, List.mem_of_getElem? (i := 355) (by decide +kernel), List.mem_of_getElem? (i := 353) (by decide +kernel), List.mem_of_getElem? (i := 354) (by decide +kernel)⟩
theorem lw_p17 : lw_okq (⟨"LateDoves", "mixDove", "(JI)J"⟩, 9) := ⟨⟨by decide +kernel, by decide +kernel⟩, List.mem_of_getElem? (i := 15) (by decide +kernel), List.mem_of_getElem? (i := 406) (by decide +kernel), List.mem_of_getElem? (i := 407) (by decide +kernel)⟩
theorem lw_p18 : lw_okq (⟨"LateDoves", "tryHome", "(II)Z"⟩, 9) := ⟨⟨by decide +kernel, by decide +kernel⟩, List.mem_of_getElem? (i := 15) (by decide +kernel), List.mem_of_getElem? (i := 414) (by decide +kernel), List.mem_of_getElem? (i := 415) (by decide +kernel)⟩
theorem lw_p19 : lw_okq (⟨"LateDoves", "trialNumber", "(II)I"⟩, 9) := ⟨⟨by decide +kernel, by decide +kernel⟩, List.mem_of_getElem? (i := 15) (by decide +kernel), List.mem_of_getElem? (i := 418) (by decide +kernel), List.mem_of_getElem? (i := 419) (by decide +kernel)⟩
theorem lw_p20 : lw_okq (⟨"LateDoves", "mixWay", "(J)J"⟩, 9) := ⟨⟨by decide +kernel, by decide +kernel⟩, List.mem_of_getElem? (i := 15) (by decide +kernel), List.mem_of_getElem? (i := 424) (by decide +kernel), List.mem_of_getElem? (i := 425) (by decide +kernel)⟩
theorem lw_p21 : lw_okq (⟨"LateDoves", "needDove", "(I)V"⟩, 9) := ⟨⟨by decide +kernel, by decide +kernel⟩, List.mem_of_getElem? (i := 15) (by decide +kernel), List.mem_of_getElem? (i := 499) (by decide +kernel), List.mem_of_getElem? (i := 500) (by decide +kernel)⟩
theorem lw_p22 : lw_okq (⟨"LateDoves", "playEvening", "()I"⟩, 9) := ⟨⟨by decide +kernel, by decide +kernel⟩, List.mem_of_getElem? (i := 15) (by decide +kernel), List.mem_of_getElem? (i := 589) (by decide +kernel), List.mem_of_getElem? (i := 590) (by decide +kernel)⟩
theorem lw_p23 : lw_okq (⟨"LateDoves", "playPart", "()I"⟩, 9) := ⟨⟨by decide +kernel, by decide +kernel⟩, List.mem_of_getElem? (i := 15) (by decide +kernel), List.mem_of_getElem? (i := 597) (by decide +kernel), List.mem_of_getElem? (i := 598) (by decide +kernel)⟩
theorem lw_p24 : lw_okq (⟨"LateDoves", "playHome", "(II)I"⟩, 9) := ⟨⟨by decide +kernel, by decide +kernel⟩, List.mem_of_getElem? (i := 15) (by decide +kernel), List.mem_of_getElem? (i := 601) (by decide +kernel), List.mem_of_getElem? (i := 602) (by decide +kernel)⟩
theorem lw_p25 : lw_okq (⟨"LateDoves", "playBuy", "(II)I"⟩, 9) := ⟨⟨by decide +kernel, by decide +kernel⟩, List.mem_of_getElem? (i := 15) (by decide +kernel), List.mem_of_getElem? (i := 605) (by decide +kernel), List.mem_of_getElem? (i := 606) (by decide +kernel)⟩
theorem lw_p26 : lw_okq (⟨"LateDoves", "playMate", "(II)I"⟩, 9) := ⟨⟨by decide +kernel, by decide +kernel⟩, List.mem_of_getElem? (i := 15) (by decide +kernel), List.mem_of_getElem? (i := 609) (by decide +kernel), List.mem_of_getElem? (i := 610) (by decide +kernel)⟩
theorem lw_p27 : lw_okq (⟨"LateDoves", "playShut", "(I)I"⟩, 9) := ⟨⟨by decide +kernel, by decide +kernel⟩, List.mem_of_getElem? (i := 15) (by decide +kernel), List.mem_of_getElem? (i := 613) (by decide +kernel), List.mem_of_getElem? (i := 614) (by decide +kernel)⟩
theorem lw_p28 : lw_okq (⟨"LateDovesModel", "record", "()V"⟩, 12) := ⟨⟨by decide +kernel, by decide +kernel⟩, List.mem_of_getElem? (i := 683) (by decide +kernel), List.mem_of_getElem? (i := 742) (by decide +kernel), List.mem_of_getElem? (i := 743) (by decide +kernel)⟩
theorem lw_p29 : lw_okq (⟨"LateDovesModel", "isDove", "(I)Z"⟩, 12) := ⟨⟨by decide +kernel, by decide +kernel⟩, List.mem_of_getElem? (i := 683) (by decide +kernel), List.mem_of_getElem? (i := 750) (by decide +kernel), List.mem_of_getElem? (i := 751) (by decide +kernel)⟩
theorem lw_p30 : lw_okq (⟨"LateDovesModel", "of", "(II)I"⟩, 12) := ⟨⟨by decide +kernel, by decide +kernel⟩, List.mem_of_getElem? (i := 683) (by decide +kernel), List.mem_of_getElem? (i := 757) (by decide +kernel), List.mem_of_getElem? (i := 758) (by decide +kernel)⟩
theorem lw_p31 : lw_okq (⟨"LateDovesModel", "whyNoHome", "(II)I"⟩, 12) := ⟨⟨by decide +kernel, by decide +kernel⟩, List.mem_of_getElem? (i := 683) (by decide +kernel), List.mem_of_getElem? (i := 761) (by decide +kernel), List.mem_of_getElem? (i := 762) (by decide +kernel)⟩
def lw_privs_2 : List (MethodName × Nat) := [(⟨"java/lang/Throwable", "fillInStackTrace", "(I)Ljava/lang/Throwable;"⟩, 6), (⟨"LateDoves", "mixDove", "(JI)J"⟩, 9), (⟨"LateDoves", "tryHome", "(II)Z"⟩, 9), (⟨"LateDoves", "trialNumber", "(II)I"⟩, 9), (⟨"LateDoves", "mixWay", "(J)J"⟩, 9), (⟨"LateDoves", "needDove", "(I)V"⟩, 9), (⟨"LateDoves", "playEvening", "()I"⟩, 9), (⟨"LateDoves", "playPart", "()I"⟩, 9), (⟨"LateDoves", "playHome", "(II)I"⟩, 9), (⟨"LateDoves", "playBuy", "(II)I"⟩, 9), (⟨"LateDoves", "playMate", "(II)I"⟩, 9), (⟨"LateDoves", "playShut", "(I)I"⟩, 9), (⟨"LateDovesModel", "record", "()V"⟩, 12), (⟨"LateDovesModel", "isDove", "(I)Z"⟩, 12), (⟨"LateDovesModel", "of", "(II)I"⟩, 12), (⟨"LateDovesModel", "whyNoHome", "(II)I"⟩, 12)]
theorem lw_r2 : ∀ q ∈ lw_privs_2, lw_okq q := List.forall_mem_cons.mpr ⟨lw_p16, List.forall_mem_cons.mpr ⟨lw_p17, List.forall_mem_cons.mpr ⟨lw_p18, List.forall_mem_cons.mpr ⟨lw_p19, List.forall_mem_cons.mpr ⟨lw_p20, List.forall_mem_cons.mpr ⟨lw_p21, List.forall_mem_cons.mpr ⟨lw_p22, List.forall_mem_cons.mpr ⟨lw_p23, List.forall_mem_cons.mpr ⟨lw_p24, List.forall_mem_cons.mpr ⟨lw_p25, List.forall_mem_cons.mpr ⟨lw_p26, List.forall_mem_cons.mpr ⟨lw_p27, List.forall_mem_cons.mpr ⟨lw_p28, List.forall_mem_cons.mpr ⟨lw_p29, List.forall_mem_cons.mpr ⟨lw_p30, List.forall_mem_cons.mpr ⟨lw_p31, fun _ h => absurd h List.not_mem_nil⟩⟩⟩⟩⟩⟩⟩⟩⟩⟩⟩⟩⟩⟩⟩⟩
theorem lw_p32 : lw_okq (⟨"LateDovesModel", "doHome", "(II)I"⟩, 12) := ⟨⟨by decide +kernel, by decide +kernel⟩, List.mem_of_getElem? (i := 683) (by decide +kernel), List.mem_of_getElem? (i := 765) (by decide +kernel), List.mem_of_getElem? (i := 766) (by decide +kernel)⟩
theorem lw_p33 : lw_okq (⟨"LateDovesModel", "put", "(III)V"⟩, 12) := ⟨⟨by decide +kernel, by decide +kernel⟩, List.mem_of_getElem? (i := 683) (by decide +kernel), List.mem_of_getElem? (i := 769) (by decide +kernel), List.mem_of_getElem? (i := 770) (by decide +kernel)⟩
theorem lw_p34 : lw_okq (⟨"LateDovesModel", "isOpen", "(I)Z"⟩, 12) := ⟨⟨by decide +kernel, by decide +kernel⟩, List.mem_of_getElem? (i := 683) (by decide +kernel), List.mem_of_getElem? (i := 773) (by decide +kernel), List.mem_of_getElem? (i := 774) (by decide +kernel)⟩
theorem lw_p35 : lw_okq (⟨"LateDovesModel", "sitter", "(I)I"⟩, 12) := ⟨⟨by decide +kernel, by decide +kernel⟩, List.mem_of_getElem? (i := 683) (by decide +kernel), List.mem_of_getElem? (i := 777) (by decide +kernel), List.mem_of_getElem? (i := 778) (by decide +kernel)⟩
theorem lw_p36 : lw_okq (⟨"LateDovesModel", "countShift", "(II)V"⟩, 12) := ⟨⟨by decide +kernel, by decide +kernel⟩, List.mem_of_getElem? (i := 683) (by decide +kernel), List.mem_of_getElem? (i := 781) (by decide +kernel), List.mem_of_getElem? (i := 782) (by decide +kernel)⟩
theorem lw_p37 : lw_okq (⟨"LateDovesModel", "sit", "(II)V"⟩, 12) := ⟨⟨by decide +kernel, by decide +kernel⟩, List.mem_of_getElem? (i := 683) (by decide +kernel), List.mem_of_getElem? (i := 785) (by decide +kernel), List.mem_of_getElem? (i := 786) (by decide +kernel)⟩
theorem lw_p38 : lw_okq (⟨"LateDovesModel", "freeFor", "(I)I"⟩, 12) := ⟨⟨by decide +kernel, by decide +kernel⟩, List.mem_of_getElem? (i := 683) (by decide +kernel), List.mem_of_getElem? (i := 789) (by decide +kernel), List.mem_of_getElem? (i := 790) (by decide +kernel)⟩
theorem lw_p39 : lw_okq (⟨"LateDovesModel", "isFree", "(I)Z"⟩, 12) := ⟨⟨by decide +kernel, by decide +kernel⟩, List.mem_of_getElem? (i := 683) (by decide +kernel), List.mem_of_getElem? (i := 796) (by decide +kernel), List.mem_of_getElem? (i := 797) (by decide +kernel)⟩
theorem lw_p40 : lw_okq (⟨"LateDovesModel", "doDawn", "()I"⟩, 12) := ⟨⟨by decide +kernel, by decide +kernel⟩, List.mem_of_getElem? (i := 683) (by decide +kernel), List.mem_of_getElem? (i := 804) (by decide +kernel), List.mem_of_getElem? (i := 805) (by decide +kernel)⟩
theorem lw_p41 : lw_okq (⟨"LateDovesModel", "dovesAt", "(II)I"⟩, 12) := ⟨⟨by decide +kernel, by decide +kernel⟩, List.mem_of_getElem? (i := 683) (by decide +kernel), List.mem_of_getElem? (i := 808) (by decide +kernel), List.mem_of_getElem? (i := 809) (by decide +kernel)⟩
theorem lw_p42 : lw_okq (⟨"LateDovesModel", "whyNoDove", "(I)I"⟩, 12) := ⟨⟨by decide +kernel, by decide +kernel⟩, List.mem_of_getElem? (i := 683) (by decide +kernel), List.mem_of_getElem? (i := 816) (by decide +kernel), List.mem_of_getElem? (i := 817) (by decide +kernel)⟩
theorem lw_p43 : lw_okq (⟨"LateDovesModel", "allDoves", "()I"⟩, 12) := ⟨⟨by decide +kernel, by decide +kernel⟩, List.mem_of_getElem? (i := 683) (by decide +kernel), List.mem_of_getElem? (i := 820) (by decide +kernel), List.mem_of_getElem? (i := 821) (by decide +kernel)⟩
theorem lw_p44 : lw_okq (⟨"LateDovesModel", "ownerOf", "(I)I"⟩, 12) := ⟨⟨by decide +kernel, by decide +kernel⟩, List.mem_of_getElem? (i := 683) (by decide +kernel), List.mem_of_getElem? (i := 824) (by decide +kernel), List.mem_of_getElem? (i := 825) (by decide +kernel)⟩
theorem lw_p45 : lw_okq (⟨"LateDovesModel", "doBuy", "(II)I"⟩, 12) := ⟨⟨by decide +kernel, by decide +kernel⟩, List.mem_of_getElem? (i := 683) (by decide +kernel), List.mem_of_getElem? (i := 828) (by decide +kernel), List.mem_of_getElem? (i := 829) (by decide +kernel)⟩
theorem lw_p46 : lw_okq (⟨"LateDovesModel", "whyNoMates", "(II)I"⟩, 12) := ⟨⟨by decide +kernel, by decide +kernel⟩, List.mem_of_getElem? (i := 683) (by decide +kernel), List.mem_of_getElem? (i := 840) (by decide +kernel), List.mem_of_getElem? (i := 841) (by decide +kernel)⟩
theorem lw_p47 : lw_okq (⟨"LateDovesModel", "doMate", "(II)I"⟩, 12) := ⟨⟨by decide +kernel, by decide +kernel⟩, List.mem_of_getElem? (i := 683) (by decide +kernel), List.mem_of_getElem? (i := 844) (by decide +kernel), List.mem_of_getElem? (i := 845) (by decide +kernel)⟩
def lw_privs_3 : List (MethodName × Nat) := [(⟨"LateDovesModel", "doHome", "(II)I"⟩, 12), (⟨"LateDovesModel", "put", "(III)V"⟩, 12), (⟨"LateDovesModel", "isOpen", "(I)Z"⟩, 12), (⟨"LateDovesModel", "sitter", "(I)I"⟩, 12), (⟨"LateDovesModel", "countShift", "(II)V"⟩, 12), (⟨"LateDovesModel", "sit", "(II)V"⟩, 12), (⟨"LateDovesModel", "freeFor", "(I)I"⟩, 12), (⟨"LateDovesModel", "isFree", "(I)Z"⟩, 12), (⟨"LateDovesModel", "doDawn", "()I"⟩, 12), (⟨"LateDovesModel", "dovesAt", "(II)I"⟩, 12), (⟨"LateDovesModel", "whyNoDove", "(I)I"⟩, 12), (⟨"LateDovesModel", "allDoves", "()I"⟩, 12), (⟨"LateDovesModel", "ownerOf", "(I)I"⟩, 12), (⟨"LateDovesModel", "doBuy", "(II)I"⟩, 12), (⟨"LateDovesModel", "whyNoMates", "(II)I"⟩, 12), (⟨"LateDovesModel", "doMate", "(II)I"⟩, 12)]
theorem lw_r3 : ∀ q ∈ lw_privs_3, lw_okq q := List.forall_mem_cons.mpr ⟨lw_p32, List.forall_mem_cons.mpr ⟨lw_p33, List.forall_mem_cons.mpr ⟨lw_p34, List.forall_mem_cons.mpr ⟨lw_p35, List.forall_mem_cons.mpr ⟨lw_p36, List.forall_mem_cons.mpr ⟨lw_p37, List.forall_mem_cons.mpr ⟨lw_p38, List.forall_mem_cons.mpr ⟨lw_p39, List.forall_mem_cons.mpr ⟨lw_p40, List.forall_mem_cons.mpr ⟨lw_p41, List.forall_mem_cons.mpr ⟨lw_p42, List.forall_mem_cons.mpr ⟨lw_p43, List.forall_mem_cons.mpr ⟨lw_p44, List.forall_mem_cons.mpr ⟨lw_p45, List.forall_mem_cons.mpr ⟨lw_p46, List.forall_mem_cons.mpr ⟨lw_p47, fun _ h => absurd h List.not_mem_nil⟩⟩⟩⟩⟩⟩⟩⟩⟩⟩⟩⟩⟩⟩⟩⟩
theorem lw_p48 : lw_okq (⟨"LateDovesModel", "pairs", "()I"⟩, 12) := ⟨⟨by decide +kernel, by decide +kernel⟩, List.mem_of_getElem? (i := 683) (by decide +kernel), List.mem_of_getElem? (i := 848) (by decide +kernel), List.mem_of_getElem? (i := 849) (by decide +kernel)⟩
theorem lw_p49 : lw_okq (⟨"LateDovesModel", "whyNoShut", "(I)I"⟩, 12) := ⟨⟨by decide +kernel, by decide +kernel⟩, List.mem_of_getElem? (i := 683) (by decide +kernel), List.mem_of_getElem? (i := 856) (by decide +kernel), List.mem_of_getElem? (i := 857) (by decide +kernel)⟩
theorem lw_p50 : lw_okq (⟨"LateDovesModel", "openHoles", "()I"⟩, 12) := ⟨⟨by decide +kernel, by decide +kernel⟩, List.mem_of_getElem? (i := 683) (by decide +kernel), List.mem_of_getElem? (i := 860) (by decide +kernel), List.mem_of_getElem? (i := 861) (by decide +kernel)⟩
theorem lw_p51 : lw_okq (⟨"LateDovesModel", "findError", "()I"⟩, 12) := ⟨⟨by decide +kernel, by decide +kernel⟩, List.mem_of_getElem? (i := 683) (by decide +kernel), List.mem_of_getElem? (i := 884) (by decide +kernel), List.mem_of_getElem? (i := 885) (by decide +kernel)⟩
theorem lw_p52 : lw_okq (⟨"LateDovesModel", "readPart", "(I)I"⟩, 12) := ⟨⟨by decide +kernel, by decide +kernel⟩, List.mem_of_getElem? (i := 683) (by decide +kernel), List.mem_of_getElem? (i := 888) (by decide +kernel), List.mem_of_getElem? (i := 889) (by decide +kernel)⟩
theorem lw_p53 : lw_okq (⟨"LateDovesModel", "at", "(I)I"⟩, 12) := ⟨⟨by decide +kernel, by decide +kernel⟩, List.mem_of_getElem? (i := 683) (by decide +kernel), List.mem_of_getElem? (i := 892) (by decide +kernel), List.mem_of_getElem? (i := 893) (by decide +kernel)⟩
theorem lw_p54 : lw_okq (⟨"LateDovesModel", "readTwo", "(IIIII)I"⟩, 12) := ⟨⟨by decide +kernel, by decide +kernel⟩, List.mem_of_getElem? (i := 683) (by decide +kernel), List.mem_of_getElem? (i := 896) (by decide +kernel), List.mem_of_getElem? (i := 897) (by decide +kernel)⟩
theorem lw_p55 : lw_okq (⟨"LateDovesModel", "readNumber", "(III)I"⟩, 12) := ⟨⟨by decide +kernel, by decide +kernel⟩, List.mem_of_getElem? (i := 683) (by decide +kernel), List.mem_of_getElem? (i := 900) (by decide +kernel), List.mem_of_getElem? (i := 901) (by decide +kernel)⟩
theorem lw_p56 : lw_okq (⟨"LateDovesModel", "whyNoPart", "()I"⟩, 12) := ⟨⟨by decide +kernel, by decide +kernel⟩, List.mem_of_getElem? (i := 683) (by decide +kernel), List.mem_of_getElem? (i := 908) (by decide +kernel), List.mem_of_getElem? (i := 909) (by decide +kernel)⟩
theorem lw_p57 : lw_okq (⟨"LateDovesModel", "doPart", "()I"⟩, 12) := ⟨⟨by decide +kernel, by decide +kernel⟩, List.mem_of_getElem? (i := 683) (by decide +kernel), List.mem_of_getElem? (i := 912) (by decide +kernel), List.mem_of_getElem? (i := 913) (by decide +kernel)⟩
theorem lw_p58 : lw_okq (⟨"LateDovesModel", "doveNow", "(II)I"⟩, 12) := ⟨⟨by decide +kernel, by decide +kernel⟩, List.mem_of_getElem? (i := 683) (by decide +kernel), List.mem_of_getElem? (i := 924) (by decide +kernel), List.mem_of_getElem? (i := 925) (by decide +kernel)⟩
theorem lw_p59 : lw_okq (⟨"LateDovesModel", "holeNow", "(II)I"⟩, 12) := ⟨⟨by decide +kernel, by decide +kernel⟩, List.mem_of_getElem? (i := 683) (by decide +kernel), List.mem_of_getElem? (i := 932) (by decide +kernel), List.mem_of_getElem? (i := 933) (by decide +kernel)⟩
theorem lw_p60 : lw_okq (⟨"LateDovesModel", "countNow", "(I)I"⟩, 12) := ⟨⟨by decide +kernel, by decide +kernel⟩, List.mem_of_getElem? (i := 683) (by decide +kernel), List.mem_of_getElem? (i := 940) (by decide +kernel), List.mem_of_getElem? (i := 941) (by decide +kernel)⟩
theorem lw_p61 : lw_okq (⟨"LateDovesModel", "homeIf", "(III)I"⟩, 12) := ⟨⟨by decide +kernel, by decide +kernel⟩, List.mem_of_getElem? (i := 683) (by decide +kernel), List.mem_of_getElem? (i := 956) (by decide +kernel), List.mem_of_getElem? (i := 957) (by decide +kernel)⟩
theorem lw_p62 : lw_okq (⟨"LateDovesModel", "putAside", "()V"⟩, 12) := ⟨⟨by decide +kernel, by decide +kernel⟩, List.mem_of_getElem? (i := 683) (by decide +kernel), List.mem_of_getElem? (i := 960) (by decide +kernel), List.mem_of_getElem? (i := 961) (by decide +kernel)⟩
theorem lw_p63 : lw_okq (⟨"LateDovesModel", "putBack", "()V"⟩, 12) := ⟨⟨by decide +kernel, by decide +kernel⟩, List.mem_of_getElem? (i := 683) (by decide +kernel), List.mem_of_getElem? (i := 964) (by decide +kernel), List.mem_of_getElem? (i := 965) (by decide +kernel)⟩
def lw_privs_4 : List (MethodName × Nat) := [(⟨"LateDovesModel", "pairs", "()I"⟩, 12), (⟨"LateDovesModel", "whyNoShut", "(I)I"⟩, 12), (⟨"LateDovesModel", "openHoles", "()I"⟩, 12), (⟨"LateDovesModel", "findError", "()I"⟩, 12), (⟨"LateDovesModel", "readPart", "(I)I"⟩, 12), (⟨"LateDovesModel", "at", "(I)I"⟩, 12), (⟨"LateDovesModel", "readTwo", "(IIIII)I"⟩, 12), (⟨"LateDovesModel", "readNumber", "(III)I"⟩, 12), (⟨"LateDovesModel", "whyNoPart", "()I"⟩, 12), (⟨"LateDovesModel", "doPart", "()I"⟩, 12), (⟨"LateDovesModel", "doveNow", "(II)I"⟩, 12), (⟨"LateDovesModel", "holeNow", "(II)I"⟩, 12), (⟨"LateDovesModel", "countNow", "(I)I"⟩, 12), (⟨"LateDovesModel", "homeIf", "(III)I"⟩, 12), (⟨"LateDovesModel", "putAside", "()V"⟩, 12), (⟨"LateDovesModel", "putBack", "()V"⟩, 12)]
theorem lw_r4 : ∀ q ∈ lw_privs_4, lw_okq q := List.forall_mem_cons.mpr ⟨lw_p48, List.forall_mem_cons.mpr ⟨lw_p49, List.forall_mem_cons.mpr ⟨lw_p50, List.forall_mem_cons.mpr ⟨lw_p51, List.forall_mem_cons.mpr ⟨lw_p52, List.forall_mem_cons.mpr ⟨lw_p53, List.forall_mem_cons.mpr ⟨lw_p54, List.forall_mem_cons.mpr ⟨lw_p55, List.forall_mem_cons.mpr ⟨lw_p56, List.forall_mem_cons.mpr ⟨lw_p57, List.forall_mem_cons.mpr ⟨lw_p58, List.forall_mem_cons.mpr ⟨lw_p59, List.forall_mem_cons.mpr ⟨lw_p60, List.forall_mem_cons.mpr ⟨lw_p61, List.forall_mem_cons.mpr ⟨lw_p62, List.forall_mem_cons.mpr ⟨lw_p63, fun _ h => absurd h List.not_mem_nil⟩⟩⟩⟩⟩⟩⟩⟩⟩⟩⟩⟩⟩⟩⟩⟩
theorem lw_p64 : lw_okq (⟨"LateDovesModel", "findHole", "()I"⟩, 12) := ⟨⟨by decide +kernel, by decide +kernel⟩, List.mem_of_getElem? (i := 683) (by decide +kernel), List.mem_of_getElem? (i := 972) (by decide +kernel), List.mem_of_getElem? (i := 973) (by decide +kernel)⟩
theorem lw_p65 : lw_okq (⟨"LateDovesModel", "asGood", "()I"⟩, 12) := ⟨⟨by decide +kernel, by decide +kernel⟩, List.mem_of_getElem? (i := 683) (by decide +kernel), List.mem_of_getElem? (i := 980) (by decide +kernel), List.mem_of_getElem? (i := 981) (by decide +kernel)⟩
theorem lw_p66 : lw_okq (⟨"LateDovesModel", "inHolesIf", "(I)I"⟩, 12) := ⟨⟨by decide +kernel, by decide +kernel⟩, List.mem_of_getElem? (i := 683) (by decide +kernel), List.mem_of_getElem? (i := 984) (by decide +kernel), List.mem_of_getElem? (i := 985) (by decide +kernel)⟩
theorem lw_p67 : lw_okq (⟨"LateDovesModel", "share", "()D"⟩, 12) := ⟨⟨by decide +kernel, by decide +kernel⟩, List.mem_of_getElem? (i := 683) (by decide +kernel), List.mem_of_getElem? (i := 992) (by decide +kernel), List.mem_of_getElem? (i := 993) (by decide +kernel)⟩
def lw_privs_5 : List (MethodName × Nat) := [(⟨"LateDovesModel", "findHole", "()I"⟩, 12), (⟨"LateDovesModel", "asGood", "()I"⟩, 12), (⟨"LateDovesModel", "inHolesIf", "(I)I"⟩, 12), (⟨"LateDovesModel", "share", "()D"⟩, 12)]
theorem lw_r5 : ∀ q ∈ lw_privs_5, lw_okq q := List.forall_mem_cons.mpr ⟨lw_p64, List.forall_mem_cons.mpr ⟨lw_p65, List.forall_mem_cons.mpr ⟨lw_p66, List.forall_mem_cons.mpr ⟨lw_p67, fun _ h => absurd h List.not_mem_nil⟩⟩⟩⟩
def lw_privs : List (MethodName × Nat) := lw_privs_1 ++ (lw_privs_2 ++ (lw_privs_3 ++ (lw_privs_4 ++ (lw_privs_5))))
def lw_tbl : List Cond := k2_sels lw_privs ++ tables_1
theorem lw_privs_ok : ∀ q ∈ lw_privs, lw_okq q := by
  show ∀ q ∈ lw_privs_1 ++ (lw_privs_2 ++ (lw_privs_3 ++ (lw_privs_4 ++ (lw_privs_5)))), lw_okq q
  exact List.forall_mem_append.mpr ⟨lw_r1, List.forall_mem_append.mpr ⟨lw_r2, List.forall_mem_append.mpr ⟨lw_r3, List.forall_mem_append.mpr ⟨lw_r4, lw_r5⟩⟩⟩⟩
/-- the streams that the claim lets the run draw from -/
abbrev lw_cs : List Choice := [Jvm.Choice.named "NaN.bits"]
theorem lw_bits : nanBits ∈ lw_cs := by first | decide | exact List.mem_cons_self | simp [lw_cs, nanBits]
-- ===== end of PART A; then your names; then what follows =====
/-! ===== BEGIN words of one list among another's, by their places ===== -/
theorem goodIn_r {big : List Cond} (ws : List Cond) (ps : List Nat) (hp : ws = ps.filterMap (fun i => big[i]?)) (h : ws.all goodWord = true) : GoodIn big ws := by
  intro w hw
  have h1 := List.all_eq_true.mp h w hw
  rw [hp] at hw
  obtain ⟨i, -, hi⟩ := List.mem_filterMap.mp hw
  have hm : w ∈ big := by first | exact List.mem_of_getElem? hi | exact List.getElem?_mem hi
  exact ⟨hm, good_of_word h1⟩
theorem goodIn_app {big a b : List Cond} (ha : GoodIn big a) (hb : GoodIn big b) : GoodIn big (a ++ b) := fun w h => (List.mem_append.mp h).elim (ha w) (hb w)
theorem goodIn_ca {big a b : List Cond} {c : Cond} (ha : GoodIn big (c :: a)) (hb : GoodIn big b) : GoodIn big (c :: (a ++ b)) := fun w h => (List.mem_cons.mp h).elim (fun e => ha w (List.mem_cons.mpr (Or.inl e))) (fun h => (List.mem_append.mp h).elim (fun h => ha w (List.mem_cons.mpr (Or.inr h))) (hb w))
theorem goodIn_sub {big ws : List Cond} (hm : ∀ w ∈ ws, w ∈ big) (h : ws.all goodWord = true) : GoodIn big ws := fun w hw => ⟨hm w hw, good_of_word (List.all_eq_true.mp h w hw)⟩
/-! ===== END ===== -/

/-! ===== BEGIN exceptions that leave a method, and their catching by the caller (launches without stack traces) ===== -/
section VXA
/-! The laws vx_back, vx_callV, vx_callS, vx_callSW, vx_throw0, vx_throwS follow proofs of the library, with one case more: JvmDerived/Free/Laws.lean (Back.of_free), Shelf42/LK1.lean (callV, callS), Shelf/KitTraced.lean (throwNew0V, throwNewS). -/
/-- where a method has thrown q: the class by its name, the cell, what was written, the world -/
def vx_T (XC : String → State → State → Prop) (st : State) (q : Addr) (t : State) (mc ms : Nat) (free : Addr → Prop) : Prop :=
  ∃ (E : String) (ce : Cell) (L : List Loc), XC E st t ∧ t.heap[q]? = some ce ∧ ce.vm = .none ∧ st.vm.findClass E = some ce.cls ∧ st.WarmedH t.vm ∧ st.sameButNew ({ t with vm := st.vm } : State) L mc ms ∧ ∀ z ∈ L, free z.base
def vx_Q (Qc : Array Value → State → Outcome → State → Prop) (XC : String → State → State → Prop) (mc ms : Nat) (free : Addr → Prop) : Array Value → State → Outcome → State → Prop := fun a st o t =>
  (Qc a st o t ∧ ∃ L, FrameEnd st o t L mc ms ∧ ∀ q ∈ L, free q.base) ∨ ∃ q, o = .threw q ∧ vx_T XC st q t mc ms free
/-- a callee that returns or throws -/
def vx_Met (l : Launch) (y : MethodName) (ws : List Cond) (rm : Room) (Pc : Array Value → State → Prop) (Qc : Array Value → State → Outcome → State → Prop) (XC : String → State → State → Prop) (mc ms : Nat) (free : Addr → Prop) : Prop :=
  MetFree l y (headSpec ws rm) Pc (fun _ _ _ _ _ => True) (vx_Q Qc XC mc ms free)
def vx_Post (XC : String → State → State → Prop) (mc ms : Nat) (free : Addr → Prop) : Pt → Array Value → Addr → Pt → Prop := fun A a q B =>
  ∃ (g : JFrame) (mk : MethodId) (t : State) (L : List Loc) (E : String) (ce : Cell), B.U.heap = t.heap ∧ B.U.vm = t.vm ∧ XC E (A.U.calling g mk a) t ∧ t.heap[q]? = some ce ∧ ce.vm = .none ∧ A.U.vm.findClass E = some ce.cls ∧ B.locs = A.locs ++ L ∧ (∀ z ∈ L, free z.base) ∧ B.cells = A.cells + mc ∧ B.slots = A.slots + ms
def vx_Back (l : Launch) (R : Room) (p : Program) (e : Env) (below : List Frame) (s : State) (sargs : Array Value) (y : MethodName) (len W9 : Nat)
    (Pre : Pt → Array Value → Prop) (Post : Pt → Array Value → Option Value → Pt → Prop) (PostX : Pt → Array Value → Addr → Pt → Prop) : Prop :=
  ∀ (m : MethodId) (meth : Method) (c : Code) (A : Pt) (g : JFrame) (ig : Instr) (mk : MethodId) (a : Array Value),
    Stand p l e R s m sargs below meth c A.U A.locs A.cells A.slots → g.method = m → g.locals.size = c.maxLocals → decode c.code g.pc = .ok (ig, len) →
    2 * g.monitorRoom + (g.stack.map fun v => v.category).sum ≤ W9 → A.U.methodNamed? y = some mk → Pre A a →
    (∃ (v : Option Value) (B : Pt), Stand p l e R s m sargs below meth c B.U B.locs B.cells B.slots ∧ Post A a v B ∧
      Steps p.tables e below (doInvoke e (A.U.setTop g) [] mk a).1 (B.U.setTop { g with pc := g.pc + len, stack := v.toList ++ g.stack })) ∨
    (∃ (q : Addr) (B : Pt), Stand p l e R s m sargs below meth c B.U B.locs B.cells B.slots ∧ PostX A a q B ∧
      Steps p.tables e below (doInvoke e (A.U.setTop g) [] mk a).1 ((B.U.setTop g).pushFrame (.throwing q)))
section Payer
variable {l : Launch} {R : Room} {p : Program} {e : Env} {below : List Frame} {s : State} {sargs : Array Value} {y : MethodName} {len W9 : Nat}
theorem vx_back {ws : List Cond} {rm : Room} {Pc : Array Value → State → Prop} {Qc : Array Value → State → Outcome → State → Prop} {XC : String → State → State → Prop} {mc ms : Nat} {free : Addr → Prop} {bytes : ByteArray} {maxL : Nat} {ret : Option FieldType}
    (hM : vx_Met l y ws rm Pc Qc XC mc ms free) (hblind : FrameBlind Pc) (hrc : rm.cells = mc) (hrs : rm.slots = ms)
    (hframes : rm.frames + 1 ≤ R.frames) (hlocals : W9 + (maxL + 11) + rm.locals ≤ R.locals)
    (hws : ∀ w ∈ ws, ∀ a' U, s.WarmedH U.vm → w.before a' U = true) (hcode : Cond.code y bytes maxL ret ∈ ws) (hinit : ∀ a' U, s.WarmedH U.vm → (Cond.initialized y.cls).before a' U = true) :
    vx_Back l R p e below s sargs y len W9 (PreOf R mc ms Pc) (PostOf Qc mc ms free) (vx_Post XC mc ms free) := by
  intro m meth c A g ig mk a X hg hsize hdg hW hn hp
  have h1 : (headSpec ws rm).pre.before a A.U = true := atoms_intro fun w hw => hws w hw _ _ X.warmed
  have h2 : (Cond.code y bytes maxL ret).before a A.U = true := hws _ hcode _ _ X.warmed
  have h3 : (Cond.initialized y.cls).before a A.U = true := hinit _ _ X.warmed
  have h4 : A.cells + (headSpec ws rm).room.cells ≤ R.cells := by rw [show (headSpec ws rm).room.cells = mc from hrc]; exact hp.1
  have h5 : A.slots + (headSpec ws rm).room.slots ≤ R.slots := by rw [show (headSpec ws rm).room.slots = ms from hrs]; exact hp.2.1
  have hPc : Pc a (A.U.calling g mk a) := hblind _ _ _ _ hp.2.2
  obtain ⟨U, Ls, c0, s0⟩ := A
  dsimp only [Pt.U, Pt.locs, Pt.cells, Pt.slots] at h1 h2 h3 h4 h5 X hn hPc ⊢
  obtain ⟨methY, cY, hmY, hcY, -, hlY, -, -, -, -⟩ := Cond.code_spec hn h2
  obtain ⟨kY, hkY, -⟩ := className_of_methodNamed hn
  have hinitY : kY.init = .initialized := Cond.initialized_spec (findClass_of_methodNamed hn) hkY h3
  have h : At U g.method c below := by rw [hg]; exact X.here
  have hlocals9 : W9 + (maxL + 11) + (headSpec ws rm).room.locals ≤ R.locals := hlocals
  have happ : (headSpec ws rm).appliesLoose y e.platform (U.calling g mk a) = true :=
    Spec.appliesLoose_calling (g := g) h hdg hn hkY hinitY
      (X.room_calling (g := g) (R' := (headSpec ws rm).room) hsize hmY hcY hframes (by rw [hlY]; omega) h4 h5) h1
  obtain ⟨mid, hmid⟩ := h.above
  have hfr : (U.setTop g).frames = (.java g :: mid) ++ below := by rw [State.frames_setTop' g h.top, hmid]; rfl
  obtain ⟨o, s₂, hsteps, -, hend, hq⟩ := Steps.callFree hM p X.admits X.cas X.clock (acts := []) hfr happ hPc trivial
  have hq' : vx_Q Qc XC mc ms free a (U.calling g mk a) o s₂ := hq
  rw [State.frames_setTop' g h.top] at hend
  obtain ⟨g₀, hg0⟩ := Option.isSome_iff_exists.mp h.top
  obtain ⟨r, hr⟩ := State.topJava?_eq_some.mp hg0
  have hr' : (({ U with heap := s₂.heap, slotsUsed := s₂.slotsUsed } : State).setVm s₂.vm).frames = .java g₀ :: r := hr
  rcases hq' with ⟨hqc, L, hfe, hL⟩ | ⟨q, rfl, E, ce, L, hx, hce, hcv, hcl, hW₂, hsm, hL⟩
  · obtain ⟨⟨v, rfl⟩, hW₂, e2, q2, q3, q4, q5, q6⟩ := id hfe
    have e3 : s₂ = ({ (U.calling g mk a).setFrames s₂.frames with heap := s₂.heap, slotsUsed := s₂.slotsUsed } : State).setVm s₂.vm := by
      have : s₂ = ({ s₂ with vm := (U.calling g mk a).vm } : State).setVm s₂.vm := rfl
      rw [e2] at this
      exact this
    obtain ⟨c₂, i₂, len₂, hc₂, hd₂, hf₂⟩ := hend
    have hW' : U.WarmedH s₂.vm := hW₂
    have hcc : c₂ = c := by
      have h1 : s₂.code? g.method = U.code? g.method := by
        rw [State.code?_eq, State.code?_eq, hW'.alike.method?]
      exact Option.some.inj (hc₂.symm.trans (h1.trans h.code))
    subst hcc
    have hlen : len₂ = len := by rw [hdg] at hd₂; cases hd₂; rfl
    subst hlen
    have hs₂ : s₂ = (({ U with heap := s₂.heap, slotsUsed := s₂.slotsUsed } : State).setVm s₂.vm).setTop { g with pc := g.pc + len₂, stack := v.toList ++ g.stack } := by
      refine e3.trans ?_
      rw [hf₂, State.calling_eq h.top, State.setFrames_setFrames, State.setTop_of_frames _ hr', hr]
      rfl
    have hsame : U.sameButNew ({ U with heap := s₂.heap, slotsUsed := s₂.slotsUsed } : State) L mc ms := by
      refine ⟨?_, q2, q3, q4, q5, q6⟩
      obtain ⟨t, ht, -⟩ := State.frames_cons hr
      show ({ U with heap := s₂.heap, slotsUsed := s₂.slotsUsed } : State) = { U.setFrames U.frames with heap := s₂.heap, slotsUsed := s₂.slotsUsed }
      rw [State.setFrames_self ht]
    subst hg
    refine Or.inl ⟨v, ⟨(({ U with heap := s₂.heap, slotsUsed := s₂.slotsUsed } : State).setVm s₂.vm), Ls ++ L, c0 + mc, s0 + ms⟩,
      ⟨X.admits, X.cas, X.clock, X.frames, X.room, X.hears, X.method, X.code, (X.here.setHeapUsed s₂.heap s₂.slotsUsed).setVm hW'.alike, X.tail, State.WarmedH.trans X.warmed hW', X.limits, X.bytes, X.same.trans (hsame.setVm s.vm)⟩,
      ⟨g, mk, s₂, L, rfl, rfl, hqc, rfl, hL, rfl, rfl⟩, ?_⟩
    show Steps p.tables e below _ ((({ U with heap := s₂.heap, slotsUsed := s₂.slotsUsed } : State).setVm s₂.vm).setTop { g with pc := g.pc + len₂, stack := v.toList ++ g.stack })
    rw [← hs₂]
    exact hsteps
  · obtain ⟨e2, q2, q3, q4, q5, q6⟩ := id hsm
    have e3 : s₂ = ({ (U.calling g mk a).setFrames s₂.frames with heap := s₂.heap, slotsUsed := s₂.slotsUsed } : State).setVm s₂.vm := by
      have : s₂ = ({ s₂ with vm := (U.calling g mk a).vm } : State).setVm s₂.vm := rfl
      rw [e2] at this
      exact this
    have hf₂ : s₂.frames = .throwing q :: .java g :: U.frames.tail := hend
    have hW' : U.WarmedH s₂.vm := hW₂
    have hs₂ : s₂ = ((({ U with heap := s₂.heap, slotsUsed := s₂.slotsUsed } : State).setVm s₂.vm).setTop g).pushFrame (.throwing q) := by
      refine e3.trans ?_
      rw [hf₂, State.calling_eq h.top, State.setFrames_setFrames, State.pushFrame, State.frames_setTop _ hr', State.setTop_of_frames _ hr', State.setFrames_setFrames, hr]
      rfl
    have hsame : U.sameButNew ({ U with heap := s₂.heap, slotsUsed := s₂.slotsUsed } : State) L mc ms := by
      refine ⟨?_, q2, q3, q4, q5, q6⟩
      obtain ⟨t, ht, -⟩ := State.frames_cons hr
      show ({ U with heap := s₂.heap, slotsUsed := s₂.slotsUsed } : State) = { U.setFrames U.frames with heap := s₂.heap, slotsUsed := s₂.slotsUsed }
      rw [State.setFrames_self ht]
    subst hg
    refine Or.inr ⟨q, ⟨(({ U with heap := s₂.heap, slotsUsed := s₂.slotsUsed } : State).setVm s₂.vm), Ls ++ L, c0 + mc, s0 + ms⟩,
      ⟨X.admits, X.cas, X.clock, X.frames, X.room, X.hears, X.method, X.code, (X.here.setHeapUsed s₂.heap s₂.slotsUsed).setVm hW'.alike, X.tail, State.WarmedH.trans X.warmed hW', X.limits, X.bytes, X.same.trans (hsame.setVm s.vm)⟩,
      ⟨g, mk, s₂, L, E, ce, rfl, rfl, hx, hce, hcv, hcl, rfl, hL, rfl, rfl⟩, ?_⟩
    show Steps p.tables e below _ (((({ U with heap := s₂.heap, slotsUsed := s₂.slotsUsed } : State).setVm s₂.vm).setTop g).pushFrame (.throwing q))
    rw [← hs₂]
    exact hsteps
end Payer
section Calls
variable {p : Program} {l : Launch} {e : Env} {R : Room} {s : State} {m : MethodId} {args : Array Value} {below : List Frame} {meth : Method} {c : Code} {T : State} {locs : List Loc} {cells slots : Nat}
theorem vx_callV (X : Stand p l e R s m args below meth c T locs cells slots) (hexec : p.tables.exec = Jvm.exec) {own C : String} {index : Nat} {y : MethodName} {bytes : ByteArray} {maxL : Nat} {ret : Option FieldType}
    (hown : s.vm.findClass own = some m.cls) (hlink : (Cond.methodLink own index y).before args s = true) (hinst : (Cond.instanceMethod y).before args s = true) (hsel : (Cond.selects C y y).before args s = true)
    (hcode : (Cond.code y bytes maxL ret).before args s = true) (hy : y.cls ≠ "java/lang/invoke/MethodHandle" ∧ y.cls ≠ "java/lang/invoke/VarHandle")
    {W9 : Nat} {Pre : Pt → Array Value → Prop} {Post : Pt → Array Value → Option Value → Pt → Prop} {PostX : Pt → Array Value → Addr → Pt → Prop} (hK : vx_Back l R p e below s args y 3 W9 Pre Post PostX)
    {b : Addr} {cellB : Cell} (hcell : T.heap[b]? = some cellB) (hobj : cellB.vm.isStatics = false) (hcls : s.vm.findClass C = some cellB.cls)
    {g : JFrame} (hg : g.method = m) (hsize : g.locals.size = c.maxLocals) {argsL rest : List Value} (hlen : ∀ sig, parseMethodDescriptor y.desc = some sig → argsL.length = sig.parameters.length)
    (hstack : g.stack = argsL.reverse ++ .ref b :: rest) (hW : 2 * g.monitorRoom + (rest.map fun v => v.category).sum ≤ W9) (hdg : decode c.code g.pc = .ok (.invokevirtual index, 3))
    (hpre : ∀ vm₁, s.WarmedH vm₁ → Pre ⟨T.setVm vm₁, locs, cells, slots⟩ (Value.ref b :: argsL).toArray) :
    (∃ (v : Option Value) (vm₁ : Vm) (B : Pt), s.WarmedH vm₁ ∧ Stand p l e R s m args below meth c B.U B.locs B.cells B.slots ∧ Post ⟨T.setVm vm₁, locs, cells, slots⟩ (Value.ref b :: argsL).toArray v B ∧
      ∀ target, Steps p.tables e below (B.U.setTop { g with pc := g.pc + 3, stack := v.toList ++ rest }) target → Steps p.tables e below (T.setTop g) target) ∨
    (∃ (q : Addr) (vm₁ : Vm) (B : Pt), s.WarmedH vm₁ ∧ Stand p l e R s m args below meth c B.U B.locs B.cells B.slots ∧ PostX ⟨T.setVm vm₁, locs, cells, slots⟩ (Value.ref b :: argsL).toArray q B ∧
      Steps p.tables e below (T.setTop g) ((B.U.setTop { g with stack := rest }).pushFrame (.throwing q))) := by
  obtain ⟨mk, methM, hnamed, hmethM, hstM, habM⟩ := Cond.instanceMethod_spec hinst
  obtain ⟨methM', cM, hmethM', -, -, -, -, -, -, hsigM⟩ := Cond.code_spec hnamed hcode
  cases hmethM.symm.trans hmethM'
  obtain ⟨c2, r2, m2, q1, q2, q3, q4, kP, hkP, hkPi⟩ := Cond.selects_spec hsel
  cases hcls.symm.trans q1
  cases (State.methodFound?_of_named hnamed hy).symm.trans q2
  cases hnamed.symm.trans q3
  have hselP : selectMethod e.platform s.vm cellB.cls mk = .method mk := by rw [Launch.admits_selectMethod X.admits]; exact q4
  obtain ⟨vm₁, X₁, hstep₁⟩ := X.invokevirtual hexec hown hlink hnamed hmethM hstM hkP hkPi hy (a := b) (cell := cellB) hcell
    (fun z h => by rw [h] at hobj; cases hobj) hselP hmethM habM hkP hkPi (g := g) hg (argsL := argsL) (rest := rest) (hlen _ hsigM) hstack hdg
  rcases hK m meth c ⟨T.setVm vm₁, locs, cells, slots⟩ { g with stack := rest } (.invokevirtual index) mk (Value.ref b :: argsL).toArray X₁ hg hsize hdg hW (X₁.named hnamed) (hpre vm₁ X₁.warmed) with ⟨v, B, X', hpost, hsteps⟩ | ⟨q, B, X', hpost, hsteps⟩
  · exact Or.inl ⟨v, vm₁, B, X₁.warmed, X', hpost, fun target h => hstep₁ _ fun acts => by rw [doInvoke_state]; exact hsteps.trans h⟩
  · exact Or.inr ⟨q, vm₁, B, X₁.warmed, X', hpost, hstep₁ _ fun acts => by rw [doInvoke_state]; exact hsteps⟩
theorem vx_callS (X : Stand p l e R s m args below meth c T locs cells slots) (hexec : p.tables.exec = Jvm.exec) {own : String} {index : Nat} {y : MethodName} {bytes : ByteArray} {maxL : Nat} {ret : Option FieldType}
    (hown : s.vm.findClass own = some m.cls) (hlink : (Cond.methodLink own index y).before args s = true) (hstat : (Cond.static y).before args s = true) (hinit : (Cond.initialized y.cls).before args s = true)
    (hcode : (Cond.code y bytes maxL ret).before args s = true) (hy : y.cls ≠ "java/lang/invoke/MethodHandle" ∧ y.cls ≠ "java/lang/invoke/VarHandle")
    {W9 : Nat} {Pre : Pt → Array Value → Prop} {Post : Pt → Array Value → Option Value → Pt → Prop} {PostX : Pt → Array Value → Addr → Pt → Prop} (hK : vx_Back l R p e below s args y 3 W9 Pre Post PostX)
    {g : JFrame} (hg : g.method = m) (hsize : g.locals.size = c.maxLocals) {argsL rest : List Value} (hlen : ∀ sig, parseMethodDescriptor y.desc = some sig → argsL.length = sig.parameters.length)
    (hstack : g.stack = argsL.reverse ++ rest) (hW : 2 * g.monitorRoom + (rest.map fun v => v.category).sum ≤ W9) (hdg : decode c.code g.pc = .ok (.invokestatic index, 3))
    (hpre : ∀ vm₁, s.WarmedH vm₁ → Pre ⟨T.setVm vm₁, locs, cells, slots⟩ argsL.toArray) :
    (∃ (v : Option Value) (vm₁ : Vm) (B : Pt), s.WarmedH vm₁ ∧ Stand p l e R s m args below meth c B.U B.locs B.cells B.slots ∧ Post ⟨T.setVm vm₁, locs, cells, slots⟩ argsL.toArray v B ∧
      ∀ target, Steps p.tables e below (B.U.setTop { g with pc := g.pc + 3, stack := v.toList ++ rest }) target → Steps p.tables e below (T.setTop g) target) ∨
    (∃ (q : Addr) (vm₁ : Vm) (B : Pt), s.WarmedH vm₁ ∧ Stand p l e R s m args below meth c B.U B.locs B.cells B.slots ∧ PostX ⟨T.setVm vm₁, locs, cells, slots⟩ argsL.toArray q B ∧
      Steps p.tables e below (T.setTop g) ((B.U.setTop { g with stack := rest }).pushFrame (.throwing q))) := by
  obtain ⟨mk, hnamed⟩ := Cond.code_named hcode
  obtain ⟨methM, cM, hmethM, -, -, -, -, -, -, hsigM⟩ := Cond.code_spec hnamed hcode
  have hstatic : methM.isStatic = true := Cond.static_spec hnamed hmethM hstat
  obtain ⟨kP, hkP, -⟩ := className_of_methodNamed hnamed
  have hinitP : kP.init = .initialized := Cond.initialized_spec (findClass_of_methodNamed hnamed) hkP hinit
  obtain ⟨vm₁, X₁, hstep₁⟩ := X.invokestatic hexec hown hlink hnamed hmethM hstatic hkP hinitP hy (g := g) hg (argsL := argsL) (rest := rest) (hlen _ hsigM) hstack hdg
  rcases hK m meth c ⟨T.setVm vm₁, locs, cells, slots⟩ { g with stack := rest } (.invokestatic index) mk argsL.toArray X₁ hg hsize hdg hW (X₁.named hnamed) (hpre vm₁ X₁.warmed) with ⟨v, B, X', hpost, hsteps⟩ | ⟨q, B, X', hpost, hsteps⟩
  · exact Or.inl ⟨v, vm₁, B, X₁.warmed, X', hpost, fun target h => hstep₁ _ fun acts => by rw [doInvoke_state]; exact hsteps.trans h⟩
  · exact Or.inr ⟨q, vm₁, B, X₁.warmed, X', hpost, hstep₁ _ fun acts => by rw [doInvoke_state]; exact hsteps⟩
end Calls
theorem vx_cls {s : State} {T : State} {vm₁ : Vm} {E : String} {k : ClassId} (hW : s.WarmedH vm₁) (h : (T.setVm vm₁).vm.findClass E = some k) : s.vm.findClass E = some k := by
  have h1 : vm₁.findClass E = some k := h
  rw [hW.alike.findClass] at h1
  exact h1
/-- the method's frame g, with q thrown over it -/
def vx_W (p : Program) (l : Launch) (e : Env) (R : Room) (s : State) (m : MethodId) (args : Array Value) (below : List Frame) (meth : Method) (c : Code) (H : Heap) (locs : List Loc) (cells slots : Nat) (Q : State → Prop) (g : JFrame) (q : Addr) : Prop :=
  ∀ T : State, T.heap = H → Stand p l e R s m args below meth c T locs cells slots → ∃ t, Steps p.tables e below ((T.setTop g).pushFrame (.throwing q)) t ∧ Q t
def vx_Run (p : Program) (l : Launch) (e : Env) (R : Room) (s : State) (m : MethodId) (args : Array Value) (below : List Frame) (meth : Method) (c : Code) (H : Heap) (locs : List Loc) (cells slots mc ms : Nat) (g : JFrame) (rest : List Value) (Qa : State → Outcome → State → Prop) (XC : String → State → State → Prop) (free : Addr → Prop) : Prop :=
  ∀ T : State, T.heap = H → Stand p l e R s m args below meth c T locs cells slots →
    (∃ (v : Option Value) (st₀ t T' : State) (L : List Loc), st₀.heap = H ∧ Stand p l e R s m args below meth c T' (locs ++ L) (cells + mc) (slots + ms) ∧ (∀ q ∈ L, free q.base) ∧ T'.heap = t.heap ∧ T'.vm = t.vm ∧ Qa st₀ (.returned v) t ∧
      Goes p e below T g T' { g with pc := g.pc + 3, stack := v.toList ++ rest }) ∨
    (∃ (q : Addr) (st₀ t T' : State) (L : List Loc) (E : String) (ce : Cell), st₀.heap = H ∧ Stand p l e R s m args below meth c T' (locs ++ L) (cells + mc) (slots + ms) ∧ (∀ z ∈ L, free z.base) ∧ T'.heap = t.heap ∧ T'.vm = t.vm ∧ XC E st₀ t ∧ t.heap[q]? = some ce ∧ ce.vm = .none ∧ s.vm.findClass E = some ce.cls ∧
      Steps p.tables e below (T.setTop g) ((T'.setTop { g with stack := rest }).pushFrame (.throwing q)))
def vx_X {S : Type} (px : S → Prop) (B : String → S → State → Prop) (A : Nat → Prop) : String → State → State → Prop := fun E st t => ∃ u : S, px u ∧ B E u t ∧ va_F A st t
section Runs
variable {p : Program} {l : Launch} {e : Env} {R : Room} {s : State} {m : MethodId} {args : Array Value} {below : List Frame} {meth : Method} {c : Code} {H : Heap} {locs : List Loc} {cells slots : Nat}
variable {y : MethodName} {bytes cc : ByteArray} {maxL nL mc ms n index : Nat} {ret : Option FieldType} {ws : List Cond} {rm : Room} {Pc : Array Value → State → Prop} {Qc : Array Value → State → Outcome → State → Prop} {XC : String → State → State → Prop} {free : Addr → Prop} {Ts : List Cond} {own C : String} {b : Addr} {As rest : List Value} {g : JFrame}
theorem vx_callBack (cb : CallB R s args own index y bytes maxL ret ws rm mc ms n) (hM : vx_Met l y ws rm Pc Qc XC mc ms free) (hbl : FrameBlind Pc) : vx_Back l R p e below s args y 3 8 (PreOf R mc ms Pc) (PostOf Qc mc ms free) (vx_Post XC mc ms free) := by
  obtain ⟨hrc, hrs, hfr, hlo, hws, hcw, -, hini, -⟩ := cb
  exact vx_back (bytes := bytes) (maxL := maxL) (ret := ret) hM hbl hrc hrs hfr hlo hws hcw (fun a' U hW => word_at hW (Or.inl (by first | rfl | simp [Cond.onTables, Cond.keeps, Cond.steady])) hini)
theorem vx_runV (S : CallFix p m c cc nL s args Ts own) (hM : vx_Met l y ws rm Pc Qc XC mc ms free) (cw : CallW R s args own C index y bytes maxL ret ws rm mc ms n) (hp : PreV s H C b Pc As)
    (hg : g.method = m) (hn : As.length = n) (hsize : g.locals.size = nL) (hstack : g.stack = As.reverse ++ .ref b :: rest) (hW : 2 * g.monitorRoom + (rest.map fun v => v.category).sum ≤ 8) (hdg : decode cc g.pc = .ok (.invokevirtual index, 3)) (hf : cells + mc ≤ R.cells ∧ slots + ms ≤ R.slots) :
    vx_Run p l e R s m args below meth c H locs cells slots mc ms g rest (Qc (Value.ref b :: As).toArray) XC free := by
  have hK : vx_Back l R p e below s args y 3 8 (PreOf R mc ms Pc) (PostOf Qc mc ms free) (vx_Post XC mc ms free) := vx_callBack cw.1 hM hp.1
  obtain ⟨⟨-, -, -, -, -, -, hcode, -, hy, hlen, hl⟩, hin, hse⟩ := cw
  obtain ⟨hx, hb, hml, ho, -⟩ := S
  obtain ⟨-, ⟨cellB, hcB, hoB, hclB⟩, hPc⟩ := hp
  intro T hT X
  rcases vx_callV X hx (C := C) (bytes := bytes) (maxL := maxL) (ret := ret) ho hl hin hse hcode hy hK (by rw [hT]; exact hcB) hoB hclB hg (hsize.trans hml.symm) (argsL := As) (rest := rest) (fun sig h => hn.trans (hlen sig h)) hstack hW (by rw [hb]; exact hdg)
    (fun vm₁ hW₁ => ⟨hf.1, hf.2, hPc (T.setVm vm₁) hT hW₁⟩) with ⟨v, vm₁, ⟨U', l2, c2, s2⟩, hW₁, X', ⟨g', mk, t, L, e1, e2, hq, h1, hL, h2, h3⟩, st⟩ | ⟨q, vm₁, ⟨U', l2, c2, s2⟩, hW₁, X', ⟨g', mk, t, L, E, ce, e1, e2, hq, hce, hcv, hcl, h1, hL, h2, h3⟩, st⟩
  · dsimp only [Pt.U, Pt.locs, Pt.cells, Pt.slots] at X' e1 e2 h1 h2 h3 st
    subst h1; subst h2; subst h3
    exact Or.inl ⟨v, (T.setVm vm₁).calling g' mk (Value.ref b :: As).toArray, t, U', L, hT, X', hL, e1, e2, hq, st⟩
  · dsimp only [Pt.U, Pt.locs, Pt.cells, Pt.slots] at X' e1 e2 h1 h2 h3 st hcl
    subst h1; subst h2; subst h3
    exact Or.inr ⟨q, (T.setVm vm₁).calling g' mk (Value.ref b :: As).toArray, t, U', L, E, ce, hT, X', hL, e1, e2, hq, hce, hcv, vx_cls hW₁ hcl, st⟩
theorem vx_runS (S : CallFix p m c cc nL s args Ts own) (hM : vx_Met l y ws rm Pc Qc XC mc ms free) (cw : CallB R s args own index y bytes maxL ret ws rm mc ms n ∧ (Cond.static y).before args s = true) (hp : PreS s H Pc As)
    (hg : g.method = m) (hn : As.length = n) (hsize : g.locals.size = nL) (hstack : g.stack = As.reverse ++ rest) (hW : 2 * g.monitorRoom + (rest.map fun v => v.category).sum ≤ 8) (hdg : decode cc g.pc = .ok (.invokestatic index, 3)) (hf : cells + mc ≤ R.cells ∧ slots + ms ≤ R.slots) :
    vx_Run p l e R s m args below meth c H locs cells slots mc ms g rest (Qc As.toArray) XC free := by
  have hK : vx_Back l R p e below s args y 3 8 (PreOf R mc ms Pc) (PostOf Qc mc ms free) (vx_Post XC mc ms free) := vx_callBack cw.1 hM hp.1
  obtain ⟨⟨-, -, -, -, -, -, hcode, hini, hy, hlen, hl⟩, hstt⟩ := cw
  obtain ⟨hx, hb, hml, ho, -⟩ := S
  intro T hT X
  rcases vx_callS X hx (bytes := bytes) (maxL := maxL) (ret := ret) ho hl hstt hini hcode hy hK hg (hsize.trans hml.symm) (argsL := As) (rest := rest) (fun sig h => hn.trans (hlen sig h)) hstack hW (by rw [hb]; exact hdg)
    (fun vm₁ hW₁ => ⟨hf.1, hf.2, hp.2 (T.setVm vm₁) hT hW₁⟩) with ⟨v, vm₁, ⟨U', l2, c2, s2⟩, hW₁, X', ⟨g', mk, t, L, e1, e2, hq, h1, hL, h2, h3⟩, st⟩ | ⟨q, vm₁, ⟨U', l2, c2, s2⟩, hW₁, X', ⟨g', mk, t, L, E, ce, e1, e2, hq, hce, hcv, hcl, h1, hL, h2, h3⟩, st⟩
  · dsimp only [Pt.U, Pt.locs, Pt.cells, Pt.slots] at X' e1 e2 h1 h2 h3 st
    subst h1; subst h2; subst h3
    exact Or.inl ⟨v, (T.setVm vm₁).calling g' mk As.toArray, t, U', L, hT, X', hL, e1, e2, hq, st⟩
  · dsimp only [Pt.U, Pt.locs, Pt.cells, Pt.slots] at X' e1 e2 h1 h2 h3 st hcl
    subst h1; subst h2; subst h3
    exact Or.inr ⟨q, (T.setVm vm₁).calling g' mk As.toArray, t, U', L, E, ce, hT, X', hL, e1, e2, hq, hce, hcv, vx_cls hW₁ hcl, st⟩
end Runs
section Rows
variable {p : Program} {l : Launch} {e : Env} {R : Room} {s : State} {m : MethodId} {args : Array Value} {below : List Frame} {meth : Method} {c : Code} {H : Heap} {locs : List Loc} {cells slots : Nat} {Q : State → Prop}
variable {mc ms : Nat} {free : Addr → Prop} {A0 A1 : Nat → Prop} {H0 : Heap} {a : Array Value} {pc : Nat} {ls : Array Slot} {st0 rest : List Value}
theorem vx_keep {st₀ t T' : State} {L : List Loc} (h0 : st₀.heap = H) (e1 : T'.heap = t.heap) (hS : va_S A0 H0 H locs) (hA : ∀ q, q < H.size → A1 q → A0 q) (hf : ∀ q, free q → A0 q) (hL : ∀ q ∈ L, free q.base) (hF : va_F A1 st₀ t) :
    H.size ≤ T'.heap.size ∧ (∀ q : Nat, q < H.size → ¬ A1 q → T'.heap[q]? = H[q]?) ∧ va_S A0 H0 T'.heap (locs ++ L) := by
  obtain ⟨hz, hk⟩ := hF
  rw [h0] at hz hk
  exact ⟨by rw [e1]; exact hz, fun q h1 h2 => by rw [e1]; exact hk q h1 h2,
    ⟨Nat.le_trans hS.1 (by rw [e1]; exact hz), fun q h1 h2 => by rw [e1, hk q (Nat.lt_of_lt_of_le h1 hS.1) (fun z => h2 (hA q (Nat.lt_of_lt_of_le h1 hS.1) z))]; exact hS.2.1 q h1 h2, fun q hq => by
      rcases List.mem_append.mp hq with h | h
      · exact hS.2.2 q h
      · exact hf _ (hL q h)⟩⟩
theorem vx_calli {S SX : Type} {post : Int32 → S → Prop} {px : SX → Prop} {B : S → State → Prop} {BX : String → SX → State → Prop} {AX : Nat → Prop} (hr : vx_Run p l e R s m args below meth c H locs cells slots mc ms (F0 m pc ls st0) rest (va_Qi post B A1 a) (vx_X px BX AX) free) (hS : va_S A0 H0 H locs) (hA : ∀ q, q < H.size → A1 q → A0 q) (hf : ∀ q, free q → A0 q) (hAX : ∀ q, q < H.size → AX q → A0 q)
    (kx : ∀ (E : String) (ce : Cell) (q9 : Addr) (u : SX) (t : State) (H1 : Heap) (locs1 : List Loc), t.heap = H1 → s.vm.Alike t.vm → px u → BX E u t → H.size ≤ H1.size → (∀ q : Nat, q < H.size → ¬ AX q → H1[q]? = H[q]?) → va_S A0 H0 H1 locs1 → H1[q9]? = some ce → ce.vm = .none → s.vm.findClass E = some ce.cls → vx_W p l e R s m args below meth c H1 locs1 (cells + mc) (slots + ms) Q (F0 m pc ls rest) q9)
    (kk : ∀ (r : Int32) (u : S) (t : State) (H1 : Heap) (locs1 : List Loc), t.heap = H1 → s.vm.Alike t.vm → post r u → B u t → H.size ≤ H1.size → (∀ q : Nat, q < H.size → ¬ A1 q → H1[q]? = H[q]?) → va_S A0 H0 H1 locs1 → W p l e R s m args below meth c H1 locs1 (cells + mc) (slots + ms) Q (F0 m (pc + 3) ls (.int r :: rest))) : W p l e R s m args below meth c H locs cells slots Q (F0 m pc ls st0) := by
  intro T hT X
  rcases hr T hT X with ⟨v, st₀, t, T', L, h0, X', hL, e1, e2, ⟨⟨r, u, hv, hp, hb⟩, hF⟩, st⟩ | ⟨q, st₀, t, T', L, E, ce, h0, X', hL, e1, e2, ⟨u, hp, hb, hF⟩, hce, hcv, hcl, st⟩
  · cases hv
    obtain ⟨k1, k2, k3⟩ := vx_keep h0 e1 hS hA hf hL hF
    obtain ⟨t2, a1, b1⟩ := kk r u t T'.heap (locs ++ L) e1.symm (by rw [← e2]; exact X'.warmed.alike) hp hb k1 k2 k3 T' rfl X'
    exact ⟨t2, st t2 a1, b1⟩
  · obtain ⟨k1, k2, k3⟩ := vx_keep h0 e1 hS hAX hf hL hF
    obtain ⟨t2, a1, b1⟩ := kx E ce q u t T'.heap (locs ++ L) e1.symm (by rw [← e2]; exact X'.warmed.alike) hp hb k1 k2 k3 (by rw [e1]; exact hce) hcv hcl T' rfl X'
    exact ⟨t2, st.trans a1, b1⟩
theorem vx_calll {S SX : Type} {post : Int64 → S → Prop} {px : SX → Prop} {B : S → State → Prop} {BX : String → SX → State → Prop} {AX : Nat → Prop} (hr : vx_Run p l e R s m args below meth c H locs cells slots mc ms (F0 m pc ls st0) rest (va_Ql post B A1 a) (vx_X px BX AX) free) (hS : va_S A0 H0 H locs) (hA : ∀ q, q < H.size → A1 q → A0 q) (hf : ∀ q, free q → A0 q) (hAX : ∀ q, q < H.size → AX q → A0 q)
    (kx : ∀ (E : String) (ce : Cell) (q9 : Addr) (u : SX) (t : State) (H1 : Heap) (locs1 : List Loc), t.heap = H1 → s.vm.Alike t.vm → px u → BX E u t → H.size ≤ H1.size → (∀ q : Nat, q < H.size → ¬ AX q → H1[q]? = H[q]?) → va_S A0 H0 H1 locs1 → H1[q9]? = some ce → ce.vm = .none → s.vm.findClass E = some ce.cls → vx_W p l e R s m args below meth c H1 locs1 (cells + mc) (slots + ms) Q (F0 m pc ls rest) q9)
    (kk : ∀ (r : Int64) (u : S) (t : State) (H1 : Heap) (locs1 : List Loc), t.heap = H1 → s.vm.Alike t.vm → post r u → B u t → H.size ≤ H1.size → (∀ q : Nat, q < H.size → ¬ A1 q → H1[q]? = H[q]?) → va_S A0 H0 H1 locs1 → W p l e R s m args below meth c H1 locs1 (cells + mc) (slots + ms) Q (F0 m (pc + 3) ls (.long r :: rest))) : W p l e R s m args below meth c H locs cells slots Q (F0 m pc ls st0) := by
  intro T hT X
  rcases hr T hT X with ⟨v, st₀, t, T', L, h0, X', hL, e1, e2, ⟨⟨r, u, hv, hp, hb⟩, hF⟩, st⟩ | ⟨q, st₀, t, T', L, E, ce, h0, X', hL, e1, e2, ⟨u, hp, hb, hF⟩, hce, hcv, hcl, st⟩
  · cases hv
    obtain ⟨k1, k2, k3⟩ := vx_keep h0 e1 hS hA hf hL hF
    obtain ⟨t2, a1, b1⟩ := kk r u t T'.heap (locs ++ L) e1.symm (by rw [← e2]; exact X'.warmed.alike) hp hb k1 k2 k3 T' rfl X'
    exact ⟨t2, st t2 a1, b1⟩
  · obtain ⟨k1, k2, k3⟩ := vx_keep h0 e1 hS hAX hf hL hF
    obtain ⟨t2, a1, b1⟩ := kx E ce q u t T'.heap (locs ++ L) e1.symm (by rw [← e2]; exact X'.warmed.alike) hp hb k1 k2 k3 (by rw [e1]; exact hce) hcv hcl T' rfl X'
    exact ⟨t2, st.trans a1, b1⟩
theorem vx_callf {S SX : Type} {post : UInt32 → S → Prop} {px : SX → Prop} {B : S → State → Prop} {BX : String → SX → State → Prop} {AX : Nat → Prop} (hr : vx_Run p l e R s m args below meth c H locs cells slots mc ms (F0 m pc ls st0) rest (va_Qf post B A1 a) (vx_X px BX AX) free) (hS : va_S A0 H0 H locs) (hA : ∀ q, q < H.size → A1 q → A0 q) (hf : ∀ q, free q → A0 q) (hAX : ∀ q, q < H.size → AX q → A0 q)
    (kx : ∀ (E : String) (ce : Cell) (q9 : Addr) (u : SX) (t : State) (H1 : Heap) (locs1 : List Loc), t.heap = H1 → s.vm.Alike t.vm → px u → BX E u t → H.size ≤ H1.size → (∀ q : Nat, q < H.size → ¬ AX q → H1[q]? = H[q]?) → va_S A0 H0 H1 locs1 → H1[q9]? = some ce → ce.vm = .none → s.vm.findClass E = some ce.cls → vx_W p l e R s m args below meth c H1 locs1 (cells + mc) (slots + ms) Q (F0 m pc ls rest) q9)
    (kk : ∀ (r : UInt32) (u : S) (t : State) (H1 : Heap) (locs1 : List Loc), t.heap = H1 → s.vm.Alike t.vm → post r u → B u t → H.size ≤ H1.size → (∀ q : Nat, q < H.size → ¬ A1 q → H1[q]? = H[q]?) → va_S A0 H0 H1 locs1 → W p l e R s m args below meth c H1 locs1 (cells + mc) (slots + ms) Q (F0 m (pc + 3) ls (.float r :: rest))) : W p l e R s m args below meth c H locs cells slots Q (F0 m pc ls st0) := by
  intro T hT X
  rcases hr T hT X with ⟨v, st₀, t, T', L, h0, X', hL, e1, e2, ⟨⟨r, u, hv, hp, hb⟩, hF⟩, st⟩ | ⟨q, st₀, t, T', L, E, ce, h0, X', hL, e1, e2, ⟨u, hp, hb, hF⟩, hce, hcv, hcl, st⟩
  · cases hv
    obtain ⟨k1, k2, k3⟩ := vx_keep h0 e1 hS hA hf hL hF
    obtain ⟨t2, a1, b1⟩ := kk r u t T'.heap (locs ++ L) e1.symm (by rw [← e2]; exact X'.warmed.alike) hp hb k1 k2 k3 T' rfl X'
    exact ⟨t2, st t2 a1, b1⟩
  · obtain ⟨k1, k2, k3⟩ := vx_keep h0 e1 hS hAX hf hL hF
    obtain ⟨t2, a1, b1⟩ := kx E ce q u t T'.heap (locs ++ L) e1.symm (by rw [← e2]; exact X'.warmed.alike) hp hb k1 k2 k3 (by rw [e1]; exact hce) hcv hcl T' rfl X'
    exact ⟨t2, st.trans a1, b1⟩
theorem vx_calld {S SX : Type} {post : UInt64 → S → Prop} {px : SX → Prop} {B : S → State → Prop} {BX : String → SX → State → Prop} {AX : Nat → Prop} (hr : vx_Run p l e R s m args below meth c H locs cells slots mc ms (F0 m pc ls st0) rest (va_Qd post B A1 a) (vx_X px BX AX) free) (hS : va_S A0 H0 H locs) (hA : ∀ q, q < H.size → A1 q → A0 q) (hf : ∀ q, free q → A0 q) (hAX : ∀ q, q < H.size → AX q → A0 q)
    (kx : ∀ (E : String) (ce : Cell) (q9 : Addr) (u : SX) (t : State) (H1 : Heap) (locs1 : List Loc), t.heap = H1 → s.vm.Alike t.vm → px u → BX E u t → H.size ≤ H1.size → (∀ q : Nat, q < H.size → ¬ AX q → H1[q]? = H[q]?) → va_S A0 H0 H1 locs1 → H1[q9]? = some ce → ce.vm = .none → s.vm.findClass E = some ce.cls → vx_W p l e R s m args below meth c H1 locs1 (cells + mc) (slots + ms) Q (F0 m pc ls rest) q9)
    (kk : ∀ (r : UInt64) (u : S) (t : State) (H1 : Heap) (locs1 : List Loc), t.heap = H1 → s.vm.Alike t.vm → post r u → B u t → H.size ≤ H1.size → (∀ q : Nat, q < H.size → ¬ A1 q → H1[q]? = H[q]?) → va_S A0 H0 H1 locs1 → W p l e R s m args below meth c H1 locs1 (cells + mc) (slots + ms) Q (F0 m (pc + 3) ls (.double r :: rest))) : W p l e R s m args below meth c H locs cells slots Q (F0 m pc ls st0) := by
  intro T hT X
  rcases hr T hT X with ⟨v, st₀, t, T', L, h0, X', hL, e1, e2, ⟨⟨r, u, hv, hp, hb⟩, hF⟩, st⟩ | ⟨q, st₀, t, T', L, E, ce, h0, X', hL, e1, e2, ⟨u, hp, hb, hF⟩, hce, hcv, hcl, st⟩
  · cases hv
    obtain ⟨k1, k2, k3⟩ := vx_keep h0 e1 hS hA hf hL hF
    obtain ⟨t2, a1, b1⟩ := kk r u t T'.heap (locs ++ L) e1.symm (by rw [← e2]; exact X'.warmed.alike) hp hb k1 k2 k3 T' rfl X'
    exact ⟨t2, st t2 a1, b1⟩
  · obtain ⟨k1, k2, k3⟩ := vx_keep h0 e1 hS hAX hf hL hF
    obtain ⟨t2, a1, b1⟩ := kx E ce q u t T'.heap (locs ++ L) e1.symm (by rw [← e2]; exact X'.warmed.alike) hp hb k1 k2 k3 (by rw [e1]; exact hce) hcv hcl T' rfl X'
    exact ⟨t2, st.trans a1, b1⟩
theorem vx_callv {S SX : Type} {post : S → Prop} {px : SX → Prop} {B : S → State → Prop} {BX : String → SX → State → Prop} {AX : Nat → Prop} (hr : vx_Run p l e R s m args below meth c H locs cells slots mc ms (F0 m pc ls st0) rest (va_Qv post B A1 a) (vx_X px BX AX) free) (hS : va_S A0 H0 H locs) (hA : ∀ q, q < H.size → A1 q → A0 q) (hf : ∀ q, free q → A0 q) (hAX : ∀ q, q < H.size → AX q → A0 q)
    (kx : ∀ (E : String) (ce : Cell) (q9 : Addr) (u : SX) (t : State) (H1 : Heap) (locs1 : List Loc), t.heap = H1 → s.vm.Alike t.vm → px u → BX E u t → H.size ≤ H1.size → (∀ q : Nat, q < H.size → ¬ AX q → H1[q]? = H[q]?) → va_S A0 H0 H1 locs1 → H1[q9]? = some ce → ce.vm = .none → s.vm.findClass E = some ce.cls → vx_W p l e R s m args below meth c H1 locs1 (cells + mc) (slots + ms) Q (F0 m pc ls rest) q9)
    (kk : ∀ (u : S) (t : State) (H1 : Heap) (locs1 : List Loc), t.heap = H1 → s.vm.Alike t.vm → post u → B u t → H.size ≤ H1.size → (∀ q : Nat, q < H.size → ¬ A1 q → H1[q]? = H[q]?) → va_S A0 H0 H1 locs1 → W p l e R s m args below meth c H1 locs1 (cells + mc) (slots + ms) Q (F0 m (pc + 3) ls (rest))) : W p l e R s m args below meth c H locs cells slots Q (F0 m pc ls st0) := by
  intro T hT X
  rcases hr T hT X with ⟨v, st₀, t, T', L, h0, X', hL, e1, e2, ⟨⟨u, hv, hp, hb⟩, hF⟩, st⟩ | ⟨q, st₀, t, T', L, E, ce, h0, X', hL, e1, e2, ⟨u, hp, hb, hF⟩, hce, hcv, hcl, st⟩
  · cases hv
    obtain ⟨k1, k2, k3⟩ := vx_keep h0 e1 hS hA hf hL hF
    obtain ⟨t2, a1, b1⟩ := kk u t T'.heap (locs ++ L) e1.symm (by rw [← e2]; exact X'.warmed.alike) hp hb k1 k2 k3 T' rfl X'
    exact ⟨t2, st t2 a1, b1⟩
  · obtain ⟨k1, k2, k3⟩ := vx_keep h0 e1 hS hAX hf hL hF
    obtain ⟨t2, a1, b1⟩ := kx E ce q u t T'.heap (locs ++ L) e1.symm (by rw [← e2]; exact X'.warmed.alike) hp hb k1 k2 k3 (by rw [e1]; exact hce) hcv hcl T' rfl X'
    exact ⟨t2, st.trans a1, b1⟩
/-- caught by the row x of this method's table; the rows ahead don't take it -/
theorem vx_catch {own name : String} {E : String} {ce : Cell} {q : Addr} (hown : s.vm.findClass own = some m.cls) (pre : List ExceptionTableEntry) (x : ExceptionTableEntry) (suf : List ExceptionTableEntry) (hsplit : c.exceptionTable.toList = pre ++ x :: suf)
    (hpass : ∀ z ∈ pre, covers z pc = false ∨ (z.catchType ≠ 0 ∧ ∃ nm : String, (Cond.classLink own z.catchType nm).before args s = true ∧ va_Nc E nm s)) (hx : covers x pc = true) (h0 : x.catchType ≠ 0)
    (hlink : (Cond.classLink own x.catchType name).before args s = true) (hcast : (Cond.castable E name).before args s = true) (hcell : H[q]? = some ce) (hv : ce.vm = .none) (hcl : s.vm.findClass E = some ce.cls)
    (kk : W p l e R s m args below meth c H locs cells slots Q (F0 m x.handlerPc ls [.ref q])) : vx_W p l e R s m args below meth c H locs cells slots Q (F0 m pc ls rest) q := by
  intro T hT X
  have hpl : e.platform.magicAccessors = ({} : Platform).magicAccessors := by rw [X.admits.platform]
  obtain ⟨c3, c4, hc3, hc4, hasg⟩ := Cond.castable_spec hcast
  cases Option.some.inj (hc3.symm.trans hcl)
  obtain ⟨c5, hc5, hcl5⟩ := Cond.classLink_spec hown hlink e.platform hpl
  cases Option.some.inj (hc4.symm.trans hc5)
  obtain ⟨vm', X', st⟩ := X.thenCaughtThrough q (g := F0 m pc ls rest) rfl (Steps.refl _) (by rw [hT]; exact hcell) (by rw [hv]; rfl) (by obtain ⟨k9, h9, -⟩ := Vm.findClass_spec hcl; exact ⟨k9, h9⟩) pre x suf hsplit
    (fun z hz => by
      rcases hpass z hz with h | ⟨hz0, nm, hl1, hn1⟩
      · exact Or.inl h
      · obtain ⟨c6, hc6, hcl6⟩ := Cond.classLink_spec hown hl1 e.platform hpl
        obtain ⟨a8, b8, h1, h2, h3⟩ := hn1
        cases Option.some.inj (h1.symm.trans hcl)
        cases Option.some.inj (h2.symm.trans hc6)
        exact Or.inr ⟨hz0, _, hcl6, h3⟩) hx (Or.inr ⟨h0, c4, hcl5, hasg⟩)
  obtain ⟨t, a1, b1⟩ := kk (T.setVm vm') hT X'
  exact ⟨t, st.trans a1, b1⟩
end Rows
section Ends
variable {p : Program} {l : Launch} {e : Env} {R : Room} {s : State} {m : MethodId} {args : Array Value} {below : List Frame} {meth : Method} {c : Code} {H : Heap} {locs : List Loc} {cells slots : Nat} {Q : State → Prop}
variable {mc ms : Nat} {free : Addr → Prop} {A0 A1 : Nat → Prop} {H0 : Heap} {a : Array Value} {ls : Array Slot} {st0 rest : List Value}
variable {Qc : Array Value → State → Outcome → State → Prop} {XC : String → State → State → Prop}
/-- what a body that may throw owes at its end -/
def vx_MQ (below : List Frame) (Qc : Array Value → State → Outcome → State → Prop) (XC : String → State → State → Prop) (a : Array Value) (s : State) (mc ms : Nat) (free : Addr → Prop) : State → Prop := fun t =>
  ∃ o, t.status = .running ∧ Ended t below o ∧ vx_Q Qc XC mc ms free a s o t
theorem vx_ret {g : JFrame} {mc ms : Nat} (k : W p l e R s m args below meth c H locs cells slots (MQ below Qc args s mc ms free) g) : W p l e R s m args below meth c H locs cells slots (vx_MQ below Qc XC args s mc ms free) g := by
  intro T hT X
  obtain ⟨t, a1, o, b1, b2, b3, b4⟩ := k T hT X
  exact ⟨t, a1, o, b1, b2, Or.inl ⟨b3, b4⟩⟩
/-- not caught here: it goes on to the caller -/
theorem vx_widen {g : JFrame} {q : Addr} {k n : Nat} (h1 : cells ≤ k) (h2 : slots ≤ n) (kk : vx_W p l e R s m args below meth c H locs k n Q g q) : vx_W p l e R s m args below meth c H locs cells slots Q g q := fun T hT X => kk T hT (stand_widen X h1 h2)
theorem vx_out {pc : Nat} {E : String} {ce : Cell} {q : Addr} {mc ms : Nat} (hout : ∀ x ∈ c.exceptionTable.toList, covers x pc = false) (hlocks : meth.locks = false) (hcell : H[q]? = some ce) (hv : ce.vm = .none) (hcl : s.vm.findClass E = some ce.cls)
    (hx : ∀ t : State, t.heap = H → s.vm.Alike t.vm → XC E s t) (hf : ∀ z ∈ locs, free z.base) (hc : cells ≤ mc) (hs : slots ≤ ms) :
    vx_W p l e R s m args below meth c H locs cells slots (vx_MQ below Qc XC args s mc ms free) (F0 m pc ls rest) q := by
  intro T hT X
  obtain ⟨st1, hrun, hend, hW, hsm⟩ := X.leaveThrown q (g := F0 m pc ls rest) rfl rfl rfl hout hlocks
  have hcell9 : (T.setFrames (.throwing q :: below)).heap[q]? = some ce := by
    show T.heap[q]? = some ce
    rw [hT]; exact hcell
  exact ⟨_, st1, .threw q, hrun, hend, Or.inr ⟨q, rfl, E, ce, locs, hx _ hT hW.alike, hcell9, hv, hcl, hW, hsm.mono hc hs, hf⟩⟩
theorem vx_frame {U : State} {k n : Nat} (h : s.sameButNew ({ U with vm := s.vm } : State) locs k n) : s.heap.size ≤ U.heap.size ∧ ∀ q : Nat, q < s.heap.size → (∀ z ∈ locs, z.base ≠ q) → U.heap[q]? = s.heap[q]? := by
  obtain ⟨-, h2, -, -, -, h6⟩ := h
  refine ⟨h2, fun q hq hz => ?_⟩
  obtain ⟨c9, e1, e2, e3, e4⟩ := h6 q _ (Array.getElem?_eq_getElem hq)
  have hs : c9.slots = (s.heap[q]).slots := Array.ext_getElem? fun i => e4 i fun hm => hz _ hm rfl
  have h9 : c9 = s.heap[q] := by
    rw [hs] at e2
    exact e2
  have e5 : U.heap[q]? = some c9 := e1
  rw [e5, h9, Array.getElem?_eq_getElem hq]
/-- the words of a throw but the four that speak of the heap -/
def vx_no (w : Cond) : Bool := decide (w ≠ .isRef (.static Bundle.tN "UNASSIGNED_STACK" Bundle.steD)) && decide (w ≠ .isRef (.static Bundle.tN "SUPPRESSED_SENTINEL" Bundle.listD)) && decide (w ≠ .laysStatic Bundle.tN "UNASSIGNED_STACK" Bundle.steD) && decide (w ≠ .laysStatic Bundle.tN "SUPPRESSED_SENTINEL" Bundle.listD)
def vx_at0 (own : String) (ic : Nat) (X : String) (names : List String) : List Cond := (Bundle.ownAtoms0 own ic X names).filter vx_no
def vx_atS (own : String) (ic : Nat) (X : String) (names : List String) : List Cond := (Bundle.ownAtoms own ic X names).filter vx_no
/-- a word that the tables alone decide, or a good one -/
def vx_ot (w : Cond) : Bool := w.onTables || goodWord w
theorem vx_ot_at {args a' : Array Value} {s U : State} {w : Cond} (hW : s.WarmedH U.vm) (hvm : s.vm = U.vm) (hg : vx_ot w = true) (h : w.before args s = true) : w.before a' U = true := by
  simp only [vx_ot, Bool.or_eq_true] at hg
  rcases hg with hg | hg
  · exact va_tabs hg hvm h
  · exact word_at hW (good_of_word hg) h
/-- a list's words: the good ones out of the method's own list, the others by premises of their own -/
theorem vx_hat {args : Array Value} {s : State} {L B : List Cond} (h1 : ∀ w ∈ L.filter goodWord, w.before args s = true) (h2 : ∀ w ∈ L.filter (fun w => !goodWord w), w ∈ B) (h3 : ∀ w ∈ B, w.before args s = true) : ∀ w ∈ L, w.before args s = true := by
  intro w hw
  by_cases g : goodWord w = true
  · exact h1 w (List.mem_filter.mpr ⟨hw, g⟩)
  · refine h3 w (h2 w (List.mem_filter.mpr ⟨hw, ?_⟩))
    show (!goodWord w) = true
    cases hgw : goodWord w
    · rfl
    · exact absurd hgw g
theorem vx_c {args : Array Value} {s : State} {w : Cond} {B : List Cond} (h : w.before args s = true) (t : ∀ w ∈ B, w.before args s = true) : ∀ w' ∈ w :: B, w'.before args s = true := fun w' h' => (List.mem_cons.mp h').elim (fun e => by rw [e]; exact h) (t w')
theorem vx_n {args : Array Value} {s : State} : ∀ w ∈ ([] : List Cond), w.before args s = true := fun _ h => nomatch h
theorem vx_own {args : Array Value} {s : State} {L : List Cond} (h1 : ∀ w ∈ L.filter vx_no, w.before args s = true)
    (hU : (Cond.isRef (.static Bundle.tN "UNASSIGNED_STACK" Bundle.steD)).before args s = true) (hN : (Cond.isRef (.static Bundle.tN "SUPPRESSED_SENTINEL" Bundle.listD)).before args s = true)
    (lU : (Cond.laysStatic Bundle.tN "UNASSIGNED_STACK" Bundle.steD).before args s = true) (lN : (Cond.laysStatic Bundle.tN "SUPPRESSED_SENTINEL" Bundle.listD).before args s = true) : ∀ w ∈ L, w.before args s = true := by
  intro w hw
  by_cases e1 : w = .isRef (.static Bundle.tN "UNASSIGNED_STACK" Bundle.steD)
  · rw [e1]; exact hU
  · by_cases e2 : w = .isRef (.static Bundle.tN "SUPPRESSED_SENTINEL" Bundle.listD)
    · rw [e2]; exact hN
    · by_cases e3 : w = .laysStatic Bundle.tN "UNASSIGNED_STACK" Bundle.steD
      · rw [e3]; exact lU
      · by_cases e4 : w = .laysStatic Bundle.tN "SUPPRESSED_SENTINEL" Bundle.listD
        · rw [e4]; exact lN
        · exact h1 w (List.mem_filter.mpr ⟨hw, by unfold vx_no; rw [decide_eq_true e1, decide_eq_true e2, decide_eq_true e3, decide_eq_true e4]; rfl⟩)
/-- where a static field lies, its class's statics cell in H -/
def vx_L (C n d : String) (A : Nat → Prop) (U : State) (H : Heap) : Prop := ∃ (c : ClassId) (k : Class) (i : Nat) (f : Field) (a : Nat) (cell : Cell), U.vm.findClass C = some c ∧ U.fieldFound? C n d = some (c, k, i, f) ∧ f.isStatic = true ∧ k.statics = some a ∧ H[a]? = some cell ∧ cell.vm.isStatics = true ∧ cell.cls = c ∧ f.slot < cell.slots.size ∧ k.staticTypes[f.slot]? = some f.type ∧ ¬ A a
theorem vx_L.moved {C n d : String} {A : Nat → Prop} {u U : State} {H : Heap} (hvm : u.vm.Alike U.vm) (h : vx_L C n d A u H) : vx_L C n d A U H := by
  obtain ⟨c, k, i, f, a, cell, h1, h2, h3, h4, h5, h6, h7, h8, h9, h10⟩ := h
  obtain ⟨k', hi', he⟩ := State.fieldFound?_setVm hvm h2
  exact ⟨c, k', i, f, a, cell, by rw [hvm.findClass]; exact h1, hi', h3, by rw [he]; exact h4, h5, h6, h7, h8, by rw [he]; exact h9, h10⟩
theorem vx_L.kept {C n d : String} {A : Nat → Prop} {U : State} {H H1 : Heap} (h : vx_L C n d A U H) (hq : ∀ a : Nat, a < H.size → ¬ A a → H1[a]? = H[a]?) : vx_L C n d A U H1 := by
  obtain ⟨c, k, i, f, a, cell, h1, h2, h3, h4, h5, h6, h7, h8, h9, h10⟩ := h
  exact ⟨c, k, i, f, a, cell, h1, h2, h3, h4, by rw [hq a (Array.getElem?_eq_some_iff.mp h5).1 h10]; exact h5, h6, h7, h8, h9, h10⟩
theorem vx_L.narrow {C n d : String} {A B : Nat → Prop} {U : State} {H : Heap} (h : vx_L C n d A U H) (hAB : ∀ q, B q → A q) : vx_L C n d B U H := by
  obtain ⟨c, k, i, f, a, cell, h1, h2, h3, h4, h5, h6, h7, h8, h9, h10⟩ := h
  exact ⟨c, k, i, f, a, cell, h1, h2, h3, h4, h5, h6, h7, h8, h9, fun z => h10 (hAB _ z)⟩
theorem vx_L.word {C n d : String} {A : Nat → Prop} {s : State} {args : Array Value} (h : vx_L C n d A s s.heap) : (Cond.laysStatic C n d).before args s = true := by
  obtain ⟨c, k, i, f, a, cell, h1, h2, h3, h4, h5, h6, h7, h8, h9, -⟩ := h
  show (Cond.laysStatic C n d).holds args s none s [] = true
  exact Cond.laysStatic_of h1 h2 h3 h4 h5 h6 h7 h8 h9
/-- .. and what it holds: null or some reference -/
def vx_Zq (C n d : String) (A : Nat → Prop) (U : State) (H : Heap) : Prop := va_Zq C n d A U H ∧ vx_L C n d A U H
theorem vx_Zq.moved {C n d : String} {A : Nat → Prop} {u U : State} {H : Heap} (hvm : u.vm.Alike U.vm) (h : vx_Zq C n d A u H) : vx_Zq C n d A U H := ⟨va_Zq.moved hvm h.1, vx_L.moved hvm h.2⟩
theorem vx_Zq.kept {C n d : String} {A : Nat → Prop} {U : State} {H H1 : Heap} (h : vx_Zq C n d A U H) (hq : ∀ a : Nat, a < H.size → ¬ A a → H1[a]? = H[a]?) : vx_Zq C n d A U H1 := ⟨va_Zq.kept h.1 hq, vx_L.kept h.2 hq⟩
theorem vx_Zq.narrow {C n d : String} {A B : Nat → Prop} {U : State} {H : Heap} (h : vx_Zq C n d A U H) (hAB : ∀ q, B q → A q) : vx_Zq C n d B U H := ⟨va_Zq.narrow h.1 hAB, vx_L.narrow h.2 hAB⟩
theorem vx_Zqof {args : Array Value} {s : State} {C n d : String} {A : Nat → Prop} (hl : (Cond.laysStatic C n d).before args s = true) (hini : (Cond.initialized C).before args s = true) (h : (Cond.isRef (.static C n d)).before args s = true) (hA : ∀ a : Nat, a < s.heap.size → ¬ A a) : vx_Zq C n d A s s.heap := by
  refine ⟨va_Zqof hl hini h hA, ?_⟩
  obtain ⟨c, k, i, f, a, cell, h1, h2, h3, h4, h5, h6, h7, h8, h9⟩ := Cond.laysStatic_spec hl
  exact ⟨c, k, i, f, a, cell, h1, h2, h3, h4, h5, h6, h7, h8, h9, hA a (Array.getElem?_eq_some_iff.mp h5).1⟩
theorem vx_isRef {C n d : String} {v : Value} {A : Nat → Prop} {s : State} {args : Array Value} (h : va_Z C n d v A s s.heap) (hv : v.isRef = true) : (Cond.isRef (.static C n d)).before args s = true := by
  obtain ⟨cf, kf, fi, f, a, cell, h1, h2, h3, h4, h5, h6, h7, -⟩ := h
  have he : (Term.static C n d).eval args s none [] s = some v := by
    simp [Term.eval, State.fieldNamed?, h1, h2, h4, h5, h6, h7]
  simp only [Cond.before, Cond.holds, Cond.value, he]
  cases v <;> simp_all [Value.isRef]
theorem vx_isRefq {C n d : String} {A : Nat → Prop} {s : State} {args : Array Value} (h : va_Zq C n d A s s.heap) : (Cond.isRef (.static C n d)).before args s = true := by
  rcases h with h | ⟨t, h⟩
  · exact vx_isRef h rfl
  · exact vx_isRef h rfl
/-- the same frame, seen from here: as if the method were called anew in this heap -/
theorem vx_rebase {T : State} (X : Stand p l e R s m args below meth c T locs cells slots) {R' : Room} (hf : R'.frames ≤ R.frames) (hl : R'.locals ≤ R.locals) (hc : cells + R'.cells ≤ R.cells) (hs : slots + R'.slots ≤ R.slots) :
    Stand p l e R' ((T.setVm s.vm).setFrames (.invoking m args :: below)) m args below meth c T [] 0 0 := by
  have htop : (T.setVm s.vm).topJava?.isSome := X.here.top
  have hF : ((T.setVm s.vm).setFrames (.invoking m args :: below)).frames = .invoking m args :: below := State.frames_setFrames _ (State.cur_lt_of_top htop)
  obtain ⟨g₀, hg0⟩ := Option.isSome_iff_exists.mp htop
  obtain ⟨r, hr⟩ := State.topJava?_eq_some.mp hg0
  have hl9 : e.platform.stackLimits (T.setVm s.vm).me = e.platform.stackLimits s.me := X.limits
  have hb9 : (T.setVm s.vm).me.stackBytes = s.me.stackBytes := X.bytes
  refine ⟨X.admits, X.cas, X.clock, hF, ?_, X.hears, X.method, X.code, X.here, X.tail, X.warmed, ?_, ?_, ?_⟩
  · have h := X.room
    have hU : ((T.setVm s.vm).setFrames (.invoking m args :: below)).localsInUse = s.localsInUse := by
      rw [State.localsInUse_invoking hF (meth := meth) (c := c) X.method X.code, State.localsInUse_invoking X.frames X.method X.code]
    simp only [State.hasRoom, Bool.and_eq_true, decide_eq_true_eq] at h ⊢
    obtain ⟨⟨⟨⟨h1, h2, h3, h4, h5, h6⟩, h7⟩, h8⟩, h9⟩ := h
    rw [X.frames, List.length_cons] at h2 h3
    have q1 := X.heapSize
    have q2 := X.used
    simp only [hF, hU, List.length_cons, State.stackLimits_setFrames, State.stackBytes_setFrames, hl9, hb9]
    refine ⟨⟨⟨⟨by omega, by omega, by omega, by omega, by omega, h6⟩, ?_⟩, ?_⟩, X.book⟩
    · show T.heap.size + R'.cells ≤ e.platform.maxCells
      omega
    · show T.slotsUsed + R'.slots ≤ e.platform.maxSlots
      omega
  · rw [State.stackLimits_setFrames]; rfl
  · rw [State.stackBytes_setFrames]; rfl
  · refine ⟨?_, Nat.le_refl _, Nat.le_refl _, ?_, ?_, fun a c9 h9 => ⟨c9, h9, rfl, rfl, fun _ _ => rfl⟩⟩
    · obtain ⟨t, ht, -⟩ := State.frames_cons hr
      show T.setVm s.vm = { ((T.setVm s.vm).setFrames (.invoking m args :: below)).setFrames (T.setVm s.vm).frames with heap := T.heap, slotsUsed := T.slotsUsed }
      rw [State.setFrames_setFrames, State.setFrames_self ht]
      rfl
    · show T.slotsUsed = T.slotsUsed + ((T.heap.toList.drop T.heap.size).map (·.slots.size)).sum
      rw [List.drop_eq_nil_of_le (Nat.le_of_eq Array.length_toList)]
      rfl
    · show ((T.heap.toList.drop T.heap.size).map (·.slots.size)).sum ≤ 0
      rw [List.drop_eq_nil_of_le (Nat.le_of_eq Array.length_toList)]
      exact Nat.le_refl _
/-- 'throw new E()': new; dup; invokespecial; athrow -/
theorem vx_throw0 {cc : ByteArray} {pc : Nat} (hexec : p.tables.exec = Jvm.exec) (hb : c.code = cc) (hl : l.stackTraces = false) {own cls : String} {names : List String} {ik ic mc ms : Nat} {A : Nat → Prop}
    (hown : s.vm.findClass own = some m.cls) (hcls : Bundle.fit cls = true) (hnames : ∀ n ∈ names, Bundle.fit n = true)
    (hk : (Cond.classLink own ik cls).before args s = true) (hini : (Cond.initialized cls).before args s = true) (hat : ∀ w ∈ vx_at0 own ic cls names, w.before args s = true)
    (hgood : ∀ w ∈ Cond.classLink own ik cls :: Cond.initialized cls :: vx_at0 own ic cls names, vx_ot w = true)
    (hU : vx_Zq Bundle.tN "UNASSIGNED_STACK" Bundle.steD A s s.heap) (hN : vx_Zq Bundle.tN "SUPPRESSED_SENTINEL" Bundle.listD A s s.heap) (hS : va_S A s.heap H locs) (hsize : ls.size = c.maxLocals)
    (d0 : decode cc pc = .ok (.new ik, 3)) (d3 : decode cc (pc + 3) = .ok (.dup, 1)) (d4 : decode cc (pc + 4) = .ok (.invokespecial ic, 3)) (d7 : decode cc (pc + 7) = .ok (.athrow, 1))
    (hout : ∀ x ∈ c.exceptionTable.toList, covers x (pc + 7) = false)
    (hRframes : names.length + 3 < R.frames) (hRlocals : (rest.map fun v => v.category).sum + (13 * (names.length + 1) + 42) ≤ R.locals) (hRcells : cells + 1 ≤ R.cells) (hRslots : slots + 6 ≤ R.slots) (hlocks : meth.locks = false)
    (hx : ∀ t : State, s.vm.Alike t.vm → H.size ≤ t.heap.size → (∀ q : Nat, q < H.size → t.heap[q]? = H[q]?) → XC cls s t)
    (hf : ∀ z ∈ locs, free z.base) (hc : cells + 1 ≤ mc) (hs : slots + 6 ≤ ms) :
    W p l e R s m args below meth c H locs cells slots (vx_MQ below Qc XC args s mc ms free) (F0 m pc ls rest) := by
  intro T hT X
  have htr : e.platform.stackTraces = false := (show e.platform.stackTraces = l.stackTraces by rw [X.admits.platform]).trans hl
  have Y := vx_rebase X (R' := { frames := R.frames, locals := R.locals, cells := 1, slots := 6 }) (Nat.le_refl _) (Nat.le_refl _) hRcells hRslots
  obtain ⟨s', hA⟩ : ∃ z, z = (T.setVm s.vm).setFrames (.invoking m args :: below) := ⟨_, rfl⟩
  rw [← hA] at Y
  have hvm : s'.vm = s.vm := by rw [hA]; rfl
  have hhp : s'.heap = H := by rw [hA]; exact hT
  have hW0 : s.WarmedH s'.vm := by rw [hvm]; exact State.WarmedH.refl s
  have hat' : ∀ w ∈ vx_at0 own ic cls names, w.before args s' = true := fun w hw => vx_ot_at hW0 hvm.symm (hgood w (List.mem_cons_of_mem _ (List.mem_cons_of_mem _ hw))) (hat w hw)
  have hk' : (Cond.classLink own ik cls).before args s' = true := vx_ot_at hW0 hvm.symm (hgood _ List.mem_cons_self) hk
  have hini' : (Cond.initialized cls).before args s' = true := vx_ot_at hW0 hvm.symm (hgood _ (List.mem_cons_of_mem _ List.mem_cons_self)) hini
  have hU' : vx_Zq Bundle.tN "UNASSIGNED_STACK" Bundle.steD A s' s'.heap := by rw [hhp]; exact vx_Zq.moved hW0.alike (hU.kept hS.2.1)
  have hN' : vx_Zq Bundle.tN "SUPPRESSED_SENTINEL" Bundle.listD A s' s'.heap := by rw [hhp]; exact vx_Zq.moved hW0.alike (hN.kept hS.2.1)
  have h : ∀ w ∈ Bundle.ownAtoms0 own ic cls names, w.before args s' = true := vx_own hat' (vx_isRefq hU'.1) (vx_isRefq hN'.1) hU'.2.word hN'.2.word
  have hown' : s'.vm.findClass own = some m.cls := by rw [hvm]; exact hown
  have hins : (Cond.instantiable cls 6).before args s' = true := h _ (by simp [Bundle.ownAtoms0])
  obtain ⟨vm₁, cX, kX, hfX, hkX, -, -, X₁, st1⟩ := Y.newCold hexec (own := own) (C := cls) (index := ik) (n := 6) hown' hk' hins hini'
    (g := F0 m pc ls rest) rfl (by rw [hb]; exact d0) (Nat.le_refl _) (Nat.le_refl _)
  generalize hT1 : (T.setVm vm₁).pushCell { cls := cX, slots := kX.instanceTypes.map defaultValue, vm := .none } = T1 at X₁ st1
  have hcat : (Value.ref T.heap.size).category = 1 := rfl
  have hcellA : T1.heap[T.heap.size]? = some (freshCell cX kX) := by rw [← hT1]; exact State.heap_pushCell_size _ _
  have d3' : decode c.code (pc + 3) = .ok (.dup, 1) := by rw [hb]; exact d3
  obtain ⟨U, hsteps, hrun, hend, hW, hsame, ce, hce, hO⟩ := X₁.ctorThrow0 hexec htr (own := own) (cls := cls) (names := names) (ic := ic) hown' hcls hnames h (fun x hx => nomatch hx) hfX hkX hcellA (by rw [hhp, hT]; exact Nat.le_refl _)
    (g := { method := m, pc := pc + 4, locals := ls, stack := .ref T.heap.size :: .ref T.heap.size :: rest, locked := none }) rfl hsize rfl rfl (rest := rest) rfl
    (by rw [hb]; exact d4) (by rw [hb]; exact d7) hout hRframes (by simp only [List.map_cons, List.sum_cons, hcat]; omega) hlocks
  obtain ⟨f1, f2⟩ := vx_frame hsame
  rw [hhp] at f1 f2
  have hWs : s.WarmedH U.vm := State.WarmedH.trans hW0 hW
  have hcl : s.vm.findClass cls = some ce.cls := by
    have h9 := hO.cls
    rw [hvm] at h9
    exact h9
  have hall : s.sameButNew ({ U with vm := s.vm } : State) locs mc ms := by
    subst hA
    obtain ⟨e1, e2⟩ := hsame
    rw [State.setFrames_setFrames] at e1
    have h2 : (T.setVm s.vm).sameButNew ({ U with vm := s.vm } : State) [] (0 + 1) (0 + 6) := ⟨e1, e2⟩
    have h3 := X.same.trans h2
    rw [List.append_nil] at h3
    exact h3.mono hc hs
  refine ⟨U, ?_, .threw T.heap.size, hrun, hend, Or.inr ⟨T.heap.size, rfl, cls, ce, locs, hx U hWs.alike f1 (fun q hq => f2 q hq (fun z hz => nomatch hz)), hce, hO.vm, hcl, hWs, hall, hf⟩⟩
  refine st1 _ ?_
  show Steps p.tables e below (T1.setTop { method := m, pc := pc + 3, locals := ls, stack := .ref T.heap.size :: rest, locked := none }) _
  jvm_step X₁.here [X₁.here.top, hexec, d3', Value.category]
  exact hsteps
/-- 'throw new E("text")': new; dup; ldc; invokespecial; athrow -/
theorem vx_throwS {cc : ByteArray} {pc : Nat} (hexec : p.tables.exec = Jvm.exec) (hb : c.code = cc) (hl : l.stackTraces = false) {own cls text : String} {names : List String} {ik is ic mc ms sa : Nat} {A : Nat → Prop}
    (hown : s.vm.findClass own = some m.cls) (hcls : Bundle.fit cls = true) (hnames : ∀ n ∈ names, Bundle.fit n = true)
    (hk : (Cond.classLink own ik cls).before args s = true) (hini : (Cond.initialized cls).before args s = true) (hstr : vk_R own is text sa s) (hat : ∀ w ∈ vx_atS own ic cls names, w.before args s = true)
    (hgood : ∀ w ∈ Cond.classLink own ik cls :: Cond.initialized cls :: vx_atS own ic cls names, vx_ot w = true)
    (hU : vx_Zq Bundle.tN "UNASSIGNED_STACK" Bundle.steD A s s.heap) (hN : vx_Zq Bundle.tN "SUPPRESSED_SENTINEL" Bundle.listD A s s.heap) (hS : va_S A s.heap H locs) (hsize : ls.size = c.maxLocals)
    (d0 : decode cc pc = .ok (.new ik, 3)) (d3 : decode cc (pc + 3) = .ok (.dup, 1)) (d4 : decode cc (pc + 4) = .ok (.ldc is, 2)) (d6 : decode cc (pc + 6) = .ok (.invokespecial ic, 3)) (d9 : decode cc (pc + 9) = .ok (.athrow, 1))
    (hout : ∀ x ∈ c.exceptionTable.toList, covers x (pc + 9) = false)
    (hRframes : names.length + 3 < R.frames) (hRlocals : (rest.map fun v => v.category).sum + (13 * (names.length + 1) + 43) ≤ R.locals) (hRcells : cells + 1 ≤ R.cells) (hRslots : slots + 6 ≤ R.slots) (hlocks : meth.locks = false)
    (hx : ∀ t : State, s.vm.Alike t.vm → H.size ≤ t.heap.size → (∀ q : Nat, q < H.size → t.heap[q]? = H[q]?) → XC cls s t)
    (hf : ∀ z ∈ locs, free z.base) (hc : cells + 1 ≤ mc) (hs : slots + 6 ≤ ms) :
    W p l e R s m args below meth c H locs cells slots (vx_MQ below Qc XC args s mc ms free) (F0 m pc ls rest) := by
  intro T hT X
  have htr : e.platform.stackTraces = false := (show e.platform.stackTraces = l.stackTraces by rw [X.admits.platform]).trans hl
  have Y := vx_rebase X (R' := { frames := R.frames, locals := R.locals, cells := 1, slots := 6 }) (Nat.le_refl _) (Nat.le_refl _) hRcells hRslots
  obtain ⟨s', hA⟩ : ∃ z, z = (T.setVm s.vm).setFrames (.invoking m args :: below) := ⟨_, rfl⟩
  rw [← hA] at Y
  have hvm : s'.vm = s.vm := by rw [hA]; rfl
  have hhp : s'.heap = H := by rw [hA]; exact hT
  have hW0 : s.WarmedH s'.vm := by rw [hvm]; exact State.WarmedH.refl s
  have hat' : ∀ w ∈ vx_atS own ic cls names, w.before args s' = true := fun w hw => vx_ot_at hW0 hvm.symm (hgood w (List.mem_cons_of_mem _ (List.mem_cons_of_mem _ hw))) (hat w hw)
  have hk' : (Cond.classLink own ik cls).before args s' = true := vx_ot_at hW0 hvm.symm (hgood _ List.mem_cons_self) hk
  have hini' : (Cond.initialized cls).before args s' = true := vx_ot_at hW0 hvm.symm (hgood _ (List.mem_cons_of_mem _ List.mem_cons_self)) hini
  have hU' : vx_Zq Bundle.tN "UNASSIGNED_STACK" Bundle.steD A s' s'.heap := by rw [hhp]; exact vx_Zq.moved hW0.alike (hU.kept hS.2.1)
  have hN' : vx_Zq Bundle.tN "SUPPRESSED_SENTINEL" Bundle.listD A s' s'.heap := by rw [hhp]; exact vx_Zq.moved hW0.alike (hN.kept hS.2.1)
  have h : ∀ w ∈ Bundle.ownAtoms own ic cls names, w.before args s' = true := vx_own hat' (vx_isRefq hU'.1) (vx_isRefq hN'.1) hU'.2.word hN'.2.word
  have hown' : s'.vm.findClass own = some m.cls := by rw [hvm]; exact hown
  have hins : (Cond.instantiable cls 6).before args s' = true := h _ (by simp [Bundle.ownAtoms])
  obtain ⟨vm₁, cX, kX, hfX, hkX, -, -, X₁, st1⟩ := Y.newCold hexec (own := own) (C := cls) (index := ik) (n := 6) hown' hk' hins hini'
    (g := F0 m pc ls rest) rfl (by rw [hb]; exact d0) (Nat.le_refl _) (Nat.le_refl _)
  generalize hT1 : (T.setVm vm₁).pushCell { cls := cX, slots := kX.instanceTypes.map defaultValue, vm := .none } = T1 at X₁ st1
  have hcat : (Value.ref T.heap.size).category = 1 := rfl
  have hcellA : T1.heap[T.heap.size]? = some (freshCell cX kX) := by rw [← hT1]; exact State.heap_pushCell_size _ _
  have d3' : decode c.code (pc + 3) = .ok (.dup, 1) := by rw [hb]; exact d3
  have d4' : decode c.code (pc + 4) = .ok (.ldc is, 2) := by rw [hb]; exact d4
  have hstr' : vk_R own is text sa s' := vk_R.warm hW0 hstr
  obtain ⟨U, hsteps, hrun, hend, hW, hsame, ce, hce, hO⟩ := X₁.ctorThrowS hexec htr (own := own) (cls := cls) (names := names) (ic := ic) hown' hcls hnames h (fun x hx => nomatch hx) hfX hkX hcellA (by rw [hhp, hT]; exact Nat.le_refl _) (msg := .ref sa) rfl
    (g := { method := m, pc := pc + 6, locals := ls, stack := .ref sa :: .ref T.heap.size :: .ref T.heap.size :: rest, locked := none }) rfl hsize rfl rfl (rest := rest) rfl
    (by rw [hb]; exact d6) (by rw [hb]; exact d9) hout hRframes (by simp only [List.map_cons, List.sum_cons, hcat]; omega) hlocks
  obtain ⟨f1, f2⟩ := vx_frame hsame
  rw [hhp] at f1 f2
  have hWs : s.WarmedH U.vm := State.WarmedH.trans hW0 hW
  have hcl : s.vm.findClass cls = some ce.cls := by
    have h9 := hO.cls
    rw [hvm] at h9
    exact h9
  have hall : s.sameButNew ({ U with vm := s.vm } : State) locs mc ms := by
    subst hA
    obtain ⟨e1, e2⟩ := hsame
    rw [State.setFrames_setFrames] at e1
    have h2 : (T.setVm s.vm).sameButNew ({ U with vm := s.vm } : State) [] (0 + 1) (0 + 6) := ⟨e1, e2⟩
    have h3 := X.same.trans h2
    rw [List.append_nil] at h3
    exact h3.mono hc hs
  refine ⟨U, ?_, .threw T.heap.size, hrun, hend, Or.inr ⟨T.heap.size, rfl, cls, ce, locs, hx U hWs.alike f1 (fun q hq => f2 q hq (fun z hz => nomatch hz)), hce, hO.vm, hcl, hWs, hall, hf⟩⟩
  refine st1 _ ?_
  show Steps p.tables e below (T1.setTop { method := m, pc := pc + 3, locals := ls, stack := .ref T.heap.size :: rest, locked := none }) _
  jvm_step X₁.here [X₁.here.top, hexec, d3', Value.category]
  exact X₁.ldcString hexec (own := own) (text := text) (index := is) (a := sa) hown' hstr'.1 hstr'.2
    (g := { method := m, pc := pc + 4, locals := ls, stack := .ref T.heap.size :: .ref T.heap.size :: rest, locked := none }) rfl d4' _ hsteps
/-- 'throw new E("text")', the text by a wide index -/
theorem vx_throwSW {cc : ByteArray} {pc : Nat} (hexec : p.tables.exec = Jvm.exec) (hb : c.code = cc) (hl : l.stackTraces = false) {own cls text : String} {names : List String} {ik is ic mc ms sa : Nat} {A : Nat → Prop}
    (hown : s.vm.findClass own = some m.cls) (hcls : Bundle.fit cls = true) (hnames : ∀ n ∈ names, Bundle.fit n = true)
    (hk : (Cond.classLink own ik cls).before args s = true) (hini : (Cond.initialized cls).before args s = true) (hstr : vk_R own is text sa s) (hat : ∀ w ∈ vx_atS own ic cls names, w.before args s = true)
    (hgood : ∀ w ∈ Cond.classLink own ik cls :: Cond.initialized cls :: vx_atS own ic cls names, vx_ot w = true)
    (hU : vx_Zq Bundle.tN "UNASSIGNED_STACK" Bundle.steD A s s.heap) (hN : vx_Zq Bundle.tN "SUPPRESSED_SENTINEL" Bundle.listD A s s.heap) (hS : va_S A s.heap H locs) (hsize : ls.size = c.maxLocals)
    (d0 : decode cc pc = .ok (.new ik, 3)) (d3 : decode cc (pc + 3) = .ok (.dup, 1)) (d4 : decode cc (pc + 4) = .ok (.ldc_w is, 3)) (d7 : decode cc (pc + 7) = .ok (.invokespecial ic, 3)) (d10 : decode cc (pc + 10) = .ok (.athrow, 1))
    (hout : ∀ x ∈ c.exceptionTable.toList, covers x (pc + 10) = false)
    (hRframes : names.length + 3 < R.frames) (hRlocals : (rest.map fun v => v.category).sum + (13 * (names.length + 1) + 43) ≤ R.locals) (hRcells : cells + 1 ≤ R.cells) (hRslots : slots + 6 ≤ R.slots) (hlocks : meth.locks = false)
    (hx : ∀ t : State, s.vm.Alike t.vm → H.size ≤ t.heap.size → (∀ q : Nat, q < H.size → t.heap[q]? = H[q]?) → XC cls s t)
    (hf : ∀ z ∈ locs, free z.base) (hc : cells + 1 ≤ mc) (hs : slots + 6 ≤ ms) :
    W p l e R s m args below meth c H locs cells slots (vx_MQ below Qc XC args s mc ms free) (F0 m pc ls rest) := by
  intro T hT X
  have htr : e.platform.stackTraces = false := (show e.platform.stackTraces = l.stackTraces by rw [X.admits.platform]).trans hl
  have Y := vx_rebase X (R' := { frames := R.frames, locals := R.locals, cells := 1, slots := 6 }) (Nat.le_refl _) (Nat.le_refl _) hRcells hRslots
  obtain ⟨s', hA⟩ : ∃ z, z = (T.setVm s.vm).setFrames (.invoking m args :: below) := ⟨_, rfl⟩
  rw [← hA] at Y
  have hvm : s'.vm = s.vm := by rw [hA]; rfl
  have hhp : s'.heap = H := by rw [hA]; exact hT
  have hW0 : s.WarmedH s'.vm := by rw [hvm]; exact State.WarmedH.refl s
  have hat' : ∀ w ∈ vx_atS own ic cls names, w.before args s' = true := fun w hw => vx_ot_at hW0 hvm.symm (hgood w (List.mem_cons_of_mem _ (List.mem_cons_of_mem _ hw))) (hat w hw)
  have hk' : (Cond.classLink own ik cls).before args s' = true := vx_ot_at hW0 hvm.symm (hgood _ List.mem_cons_self) hk
  have hini' : (Cond.initialized cls).before args s' = true := vx_ot_at hW0 hvm.symm (hgood _ (List.mem_cons_of_mem _ List.mem_cons_self)) hini
  have hU' : vx_Zq Bundle.tN "UNASSIGNED_STACK" Bundle.steD A s' s'.heap := by rw [hhp]; exact vx_Zq.moved hW0.alike (hU.kept hS.2.1)
  have hN' : vx_Zq Bundle.tN "SUPPRESSED_SENTINEL" Bundle.listD A s' s'.heap := by rw [hhp]; exact vx_Zq.moved hW0.alike (hN.kept hS.2.1)
  have h : ∀ w ∈ Bundle.ownAtoms own ic cls names, w.before args s' = true := vx_own hat' (vx_isRefq hU'.1) (vx_isRefq hN'.1) hU'.2.word hN'.2.word
  have hown' : s'.vm.findClass own = some m.cls := by rw [hvm]; exact hown
  have hins : (Cond.instantiable cls 6).before args s' = true := h _ (by simp [Bundle.ownAtoms])
  obtain ⟨vm₁, cX, kX, hfX, hkX, -, -, X₁, st1⟩ := Y.newCold hexec (own := own) (C := cls) (index := ik) (n := 6) hown' hk' hins hini'
    (g := F0 m pc ls rest) rfl (by rw [hb]; exact d0) (Nat.le_refl _) (Nat.le_refl _)
  generalize hT1 : (T.setVm vm₁).pushCell { cls := cX, slots := kX.instanceTypes.map defaultValue, vm := .none } = T1 at X₁ st1
  have hcat : (Value.ref T.heap.size).category = 1 := rfl
  have hcellA : T1.heap[T.heap.size]? = some (freshCell cX kX) := by rw [← hT1]; exact State.heap_pushCell_size _ _
  have d3' : decode c.code (pc + 3) = .ok (.dup, 1) := by rw [hb]; exact d3
  have d4' : decode c.code (pc + 4) = .ok (.ldc_w is, 3) := by rw [hb]; exact d4
  have hstr' : vk_R own is text sa s' := vk_R.warm hW0 hstr
  obtain ⟨U, hsteps, hrun, hend, hW, hsame, ce, hce, hO⟩ := X₁.ctorThrowS hexec htr (own := own) (cls := cls) (names := names) (ic := ic) hown' hcls hnames h (fun x hx => nomatch hx) hfX hkX hcellA (by rw [hhp, hT]; exact Nat.le_refl _) (msg := .ref sa) rfl
    (g := { method := m, pc := pc + 7, locals := ls, stack := .ref sa :: .ref T.heap.size :: .ref T.heap.size :: rest, locked := none }) rfl hsize rfl rfl (rest := rest) rfl
    (by rw [hb]; exact d7) (by rw [hb]; exact d10) hout hRframes (by simp only [List.map_cons, List.sum_cons, hcat]; omega) hlocks
  obtain ⟨f1, f2⟩ := vx_frame hsame
  rw [hhp] at f1 f2
  have hWs : s.WarmedH U.vm := State.WarmedH.trans hW0 hW
  have hcl : s.vm.findClass cls = some ce.cls := by
    have h9 := hO.cls
    rw [hvm] at h9
    exact h9
  have hall : s.sameButNew ({ U with vm := s.vm } : State) locs mc ms := by
    subst hA
    obtain ⟨e1, e2⟩ := hsame
    rw [State.setFrames_setFrames] at e1
    have h2 : (T.setVm s.vm).sameButNew ({ U with vm := s.vm } : State) [] (0 + 1) (0 + 6) := ⟨e1, e2⟩
    have h3 := X.same.trans h2
    rw [List.append_nil] at h3
    exact h3.mono hc hs
  refine ⟨U, ?_, .threw T.heap.size, hrun, hend, Or.inr ⟨T.heap.size, rfl, cls, ce, locs, hx U hWs.alike f1 (fun q hq => f2 q hq (fun z hz => nomatch hz)), hce, hO.vm, hcl, hWs, hall, hf⟩⟩
  refine st1 _ ?_
  show Steps p.tables e below (T1.setTop { method := m, pc := pc + 3, locals := ls, stack := .ref T.heap.size :: rest, locked := none }) _
  jvm_step X₁.here [X₁.here.top, hexec, d3', Value.category]
  exact X₁.ldcStringW hexec (own := own) (text := text) (index := is) (a := sa) hown' hstr'.1 hstr'.2
    (g := { method := m, pc := pc + 4, locals := ls, stack := .ref T.heap.size :: .ref T.heap.size :: rest, locked := none }) rfl d4' _ hsteps
end Ends
section Bodies
variable {l : Launch}
theorem vx_ofW {y : MethodName} {ws ws' : List Cond} {rm : Room} {Pc : Array Value → State → Prop} {Qc : Array Value → State → Outcome → State → Prop} {XC : String → State → State → Prop} {mc ms : Nat} {free : Addr → Prop} {cc : ByteArray} {maxL : Nat} {ret : Option FieldType}
    (hy : plainName y.cls = true) (hw : ws = Cond.code y cc maxL ret :: ws')
    (body : ∀ p e s m args below meth c s₁, BodyLoose p l y (headSpec ws rm) cc maxL ret e s m args below meth c s₁ → c.maxLocals = maxL → (∀ x ∈ c.exceptionTable.toList, False) → Pc args s →
      W p l e (headSpec ws rm).room s m args below meth c s.heap [] 0 0 (vx_MQ below Qc XC args s mc ms free) (entryFrame m args maxL)) : vx_Met l y ws rm Pc Qc XC mc ms free := by
  refine MetFree.of_bodyS (code := cc) (maxLocals := maxL) (ret := ret) hy ?_ ?_
  · intro args s m h hn
    obtain ⟨meth, c, h1, h2, h3, h4, h5, h6, -, -⟩ := Cond.code_spec hn (atoms_spec (ws := ws) h _ (by rw [hw]; exact List.mem_cons_self))
    exact ⟨meth, c, h1, h2, h3, h4, h5, h6⟩
  · intro p e s m args below meth c s₁ B hml hP _
    have hh0 : s₁.heap = s.heap := by rw [B.state]; rfl
    have ht : ∀ x ∈ c.exceptionTable.toList, False := by
      obtain ⟨meth9, c9, h1, h2, -, -, -, -, h7, -⟩ := Cond.code_spec B.named (atoms_spec (ws := ws) B.pre _ (by rw [hw]; exact List.mem_cons_self))
      cases Option.some.inj (h1.symm.trans B.method)
      cases Option.some.inj (h2.symm.trans (Stand.of_body B).code)
      intro x hx
      rw [Array.isEmpty_iff.mp h7] at hx
      cases hx
    obtain ⟨t, a1, o, b1, b2, b3⟩ := body p e s m args below meth c s₁ B hml ht hP s₁ hh0 (Stand.of_body B)
    exact ⟨t, o, a1, b1, b2, b3⟩
/-- the table of a body with handlers -/
theorem vx_table {p : Program} {x y : MethodName} {S : Spec} {cc bytes : ByteArray} {maxL maxL' : Nat} {ret ret' : Option FieldType} {e : Env} {s s₁ : State} {m : MethodId} {args : Array Value} {below : List Frame} {meth : Method} {c : Code} {hh : List (Nat × Nat × Nat × Nat)}
    (B : BodyLoose p l y S cc maxL ret e s m args below meth c s₁) (h : (Cond.codeWith y bytes maxL' ret' hh).before args s = true) : c.exceptionTable.toList = tableOf hh := by
  obtain ⟨m9, meth9, c9, hn9, h1, h2, -, -, h6, -⟩ := Cond.codeWith_spec h
  cases Option.some.inj (hn9.symm.trans B.named)
  cases Option.some.inj (h1.symm.trans B.method)
  cases Option.some.inj (h2.symm.trans (Stand.of_body B).code)
  rw [← h6, table_eq]
end Bodies
end VXA
/-! ===== END ===== -/
/-! ===== BEGIN a static call of a method with an exception table ===== -/
section VXS
variable {p : Program} {l : Launch} {e : Env} {R : Room} {s : State} {m : MethodId} {args : Array Value} {below : List Frame} {meth : Method} {c : Code} {T : State} {H : Heap} {locs : List Loc} {cells slots : Nat}
abbrev vx_CSW (R : Room) (s : State) (args : Array Value) (own : String) (index : Nat) (y : MethodName) (bytes : ByteArray) (maxL : Nat) (ret : Option FieldType) (hh : List (Nat × Nat × Nat × Nat)) (ws : List Cond) (rm : Room) (mc ms n : Nat) : Prop :=
  (rm.cells = mc ∧ rm.slots = ms ∧ rm.frames + 1 ≤ R.frames ∧ 8 + (maxL + 11) + rm.locals ≤ R.locals ∧ (∀ w ∈ ws, ∀ (a' : Array Value) (U : State), s.WarmedH U.vm → w.before a' U = true) ∧ Cond.codeWith y bytes maxL ret hh ∈ ws) ∧
  (Cond.codeWith y bytes maxL ret hh).before args s = true ∧ (Cond.initialized y.cls).before args s = true ∧ (y.cls ≠ "java/lang/invoke/MethodHandle" ∧ y.cls ≠ "java/lang/invoke/VarHandle") ∧
  (∀ sig, parseMethodDescriptor y.desc = some sig → n = sig.parameters.length) ∧ (Cond.methodLink own index y).before args s = true ∧ (Cond.static y).before args s = true
theorem vx_cwSW {own : String} {index maxL mc ms : Nat} {y : MethodName} {bytes : ByteArray} {ret : Option FieldType} {hh : List (Nat × Nat × Nat × Nat)} {Ts ws ws' : List Cond} {rm : Room} (n : Nat) (ht : ∀ w ∈ Ts, w.before args s = true) (hT : GoodIn Ts (va_wsS own index y ws)) (hw : ws = Cond.codeWith y bytes maxL ret hh :: ws') (hrc : rm.cells = mc) (hrs : rm.slots = ms)
    (hd : y.cls ≠ "java/lang/invoke/MethodHandle" ∧ y.cls ≠ "java/lang/invoke/VarHandle" ∧ (parseMethodDescriptor y.desc).map (fun d => d.parameters.length) = some n) (hR : rm.frames + 1 ≤ R.frames ∧ 8 + (maxL + 11) + rm.locals ≤ R.locals) :
    vx_CSW R s args own index y bytes maxL ret hh ws rm mc ms n := by
  have ok : ∀ w ∈ va_wsS own index y ws, w.before args s = true := fun w h => ht w (hT w h).1
  have hG : GoodIn Ts ws := fun w h => hT w (by unfold va_wsS; exact List.mem_append_right _ h)
  have hc : Cond.codeWith y bytes maxL ret hh ∈ ws := by rw [hw]; exact List.mem_cons_self
  refine ⟨⟨hrc, hrs, hR.1, hR.2, pay_in ht hG, hc⟩, ht _ (hG _ hc).1, ok _ (by simp [va_wsS]), ⟨hd.1, hd.2.1⟩, fun sig h => ?_, ok _ (by simp [va_wsS]), ok _ (by simp [va_wsS])⟩
  have h2 := hd.2.2
  rw [h] at h2
  exact (Option.some.inj h2).symm
theorem vx_callSW (X : Stand p l e R s m args below meth c T locs cells slots) (hexec : p.tables.exec = Jvm.exec) {own : String} {index : Nat} {y : MethodName} {bytes : ByteArray} {maxL : Nat} {ret : Option FieldType} {hh : List (Nat × Nat × Nat × Nat)}
    (hown : s.vm.findClass own = some m.cls) (hlink : (Cond.methodLink own index y).before args s = true) (hstat : (Cond.static y).before args s = true) (hinit : (Cond.initialized y.cls).before args s = true)
    (hcode : (Cond.codeWith y bytes maxL ret hh).before args s = true) (hy : y.cls ≠ "java/lang/invoke/MethodHandle" ∧ y.cls ≠ "java/lang/invoke/VarHandle")
    {W9 : Nat} {Pre : Pt → Array Value → Prop} {Post : Pt → Array Value → Option Value → Pt → Prop} (hK : Back l R p e below s args y 3 W9 Pre Post)
    {g : JFrame} (hg : g.method = m) (hsize : g.locals.size = c.maxLocals) {argsL rest : List Value} (hlen : ∀ sig, parseMethodDescriptor y.desc = some sig → argsL.length = sig.parameters.length)
    (hstack : g.stack = argsL.reverse ++ rest) (hW : 2 * g.monitorRoom + (rest.map fun v => v.category).sum ≤ W9) (hdg : decode c.code g.pc = .ok (.invokestatic index, 3))
    (hpre : ∀ vm₁, s.WarmedH vm₁ → Pre ⟨T.setVm vm₁, locs, cells, slots⟩ argsL.toArray) :
    ∃ (v : Option Value) (vm₁ : Vm) (B : Pt), s.WarmedH vm₁ ∧ Stand p l e R s m args below meth c B.U B.locs B.cells B.slots ∧ Post ⟨T.setVm vm₁, locs, cells, slots⟩ argsL.toArray v B ∧
      ∀ target, Steps p.tables e below (B.U.setTop { g with pc := g.pc + 3, stack := v.toList ++ rest }) target → Steps p.tables e below (T.setTop g) target := by
  obtain ⟨mk, methM, cM, hnamed, hmethM, -, -, -, -, -, -, hsigM⟩ := Cond.codeWith_spec hcode
  have hstatic : methM.isStatic = true := Cond.static_spec hnamed hmethM hstat
  obtain ⟨kP, hkP, -⟩ := className_of_methodNamed hnamed
  have hinitP : kP.init = .initialized := Cond.initialized_spec (findClass_of_methodNamed hnamed) hkP hinit
  obtain ⟨vm₁, X₁, hstep₁⟩ := X.invokestatic hexec hown hlink hnamed hmethM hstatic hkP hinitP hy (g := g) hg (argsL := argsL) (rest := rest) (hlen _ hsigM) hstack hdg
  obtain ⟨v, B, X', hpost, hsteps⟩ := hK m meth c ⟨T.setVm vm₁, locs, cells, slots⟩ { g with stack := rest } (.invokestatic index) mk argsL.toArray X₁ hg hsize hdg hW (X₁.named hnamed) (hpre vm₁ X₁.warmed)
  exact ⟨v, vm₁, B, X₁.warmed, X', hpost, fun target h => hstep₁ _ fun acts => by rw [doInvoke_state]; exact hsteps.trans h⟩
theorem vx_runSW {y : MethodName} {bytes cc : ByteArray} {maxL nL mc ms n index : Nat} {ret : Option FieldType} {hh : List (Nat × Nat × Nat × Nat)} {ws : List Cond} {rm : Room} {Pc : Array Value → State → Prop} {Qc : Array Value → State → Outcome → State → Prop} {free : Addr → Prop} {Ts : List Cond} {own : String} {As rest : List Value} {g : JFrame}
    (S : CallFix p m c cc nL s args Ts own) (hM : Met l y ws rm Pc Qc mc ms free) (cw : vx_CSW R s args own index y bytes maxL ret hh ws rm mc ms n) (hp : PreS s H Pc As)
    (hg : g.method = m) (hn : As.length = n) (hsize : g.locals.size = nL) (hstack : g.stack = As.reverse ++ rest) (hW : 2 * g.monitorRoom + (rest.map fun v => v.category).sum ≤ 8) (hdg : decode cc g.pc = .ok (.invokestatic index, 3)) (hf : cells + mc ≤ R.cells ∧ slots + ms ≤ R.slots) :
    va_Run p l e R s m args below meth c H locs cells slots mc ms g rest (Qc As.toArray) (free) := by
  obtain ⟨⟨hrc, hrs, hfr, hlo, hws, hcw⟩, hcode, hini, hy, hlen, hl, hstt⟩ := cw
  have hK : Back l R p e below s args y 3 8 (PreOf R mc ms Pc) (PostOf Qc mc ms free) := va_backW (hh := hh) (bytes := bytes) (maxL := maxL) (ret := ret) hM hp.1 hrc hrs hfr hlo hws hcw (fun a' U hW => word_at hW (Or.inl (by first | rfl | simp [Cond.onTables, Cond.keeps, Cond.steady])) hini)
  obtain ⟨hx, hb, hml, ho, -⟩ := S
  intro T hT X
  obtain ⟨v, vm₁, ⟨U', l2, c2, s2⟩, hW₁, X', ⟨g', mk, t, L, e1, e2, hq, h1, hL, h2, h3⟩, st⟩ := vx_callSW X hx (hh := hh) (bytes := bytes) (maxL := maxL) (ret := ret) ho hl hstt hini hcode hy hK hg (hsize.trans hml.symm) (argsL := As) (rest := rest) (fun sig h => hn.trans (hlen sig h)) hstack hW (by rw [hb]; exact hdg)
    (fun vm₁ hW₁ => ⟨hf.1, hf.2, hp.2 (T.setVm vm₁) hT hW₁⟩)
  dsimp only [Pt.U, Pt.locs, Pt.cells, Pt.slots] at X' e1 e2 h1 h2 h3 st
  subst h1; subst h2; subst h3
  exact ⟨v, (T.setVm vm₁).calling g' mk As.toArray, t, U', L, hT, X', hL, e1, e2, hq, st⟩
/-- not caught here, past rows that name other classes: it goes on to the caller -/
theorem vx_outP {p : Program} {l : Launch} {e : Env} {R : Room} {s : State} {m : MethodId} {args : Array Value} {below : List Frame} {meth : Method} {c : Code} {H : Heap} {locs : List Loc} {cells slots : Nat} {free : Addr → Prop} {ls : Array Slot} {rest : List Value} {Qc : Array Value → State → Outcome → State → Prop} {XC : String → State → State → Prop}
    {pc : Nat} {own E : String} {ce : Cell} {q : Addr} {mc ms : Nat} (hown : s.vm.findClass own = some m.cls) (hlocks : meth.locks = false)
    (hpass : ∀ z ∈ c.exceptionTable.toList, covers z pc = false ∨ (z.catchType ≠ 0 ∧ ∃ nm : String, (Cond.classLink own z.catchType nm).before args s = true ∧ va_Nc E nm s)) (hcell : H[q]? = some ce) (hv : ce.vm = .none) (hcl : s.vm.findClass E = some ce.cls)
    (hx : ∀ t : State, t.heap = H → s.vm.Alike t.vm → XC E s t) (hf : ∀ z ∈ locs, free z.base) (hc : cells ≤ mc) (hs : slots ≤ ms) :
    vx_W p l e R s m args below meth c H locs cells slots (vx_MQ below Qc XC args s mc ms free) (F0 m pc ls rest) q := by
  intro T hT X
  have hpl : e.platform.magicAccessors = ({} : Platform).magicAccessors := by rw [X.admits.platform]
  obtain ⟨vm', hW', X', st⟩ := X.outThrough hlocks q (g := F0 m pc ls rest) rfl rfl rfl (cell := ce) (by rw [hT]; exact hcell) (by rw [hv]; rfl)
    (by obtain ⟨k9, h9, -⟩ := Vm.findClass_spec hcl; exact ⟨k9, h9⟩) (fun z hz => by
      rcases hpass z hz with h | ⟨hz0, nm, hl1, hn1⟩
      · exact Or.inl h
      · obtain ⟨c6, hc6, hcl6⟩ := Cond.classLink_spec hown hl1 e.platform hpl
        obtain ⟨a8, b8, h1, h2, h3⟩ := hn1
        cases Option.some.inj (h1.symm.trans hcl)
        cases Option.some.inj (h2.symm.trans hc6)
        exact Or.inr ⟨hz0, _, hcl6, h3⟩)
  obtain ⟨g₀, hfr⟩ := X'.frames_eq
  have hcell9 : ((T.setVm vm').setFrames (.throwing q :: below)).heap[q]? = some ce := by
    show T.heap[q]? = some ce
    rw [hT]; exact hcell
  have hend : Ended ((T.setVm vm').setFrames (.throwing q :: below)) below (.threw q) := State.frames_setFrames _ (State.cur_lt_of_frames hfr)
  refine ⟨(T.setVm vm').setFrames (.throwing q :: below), ?_, .threw q, X'.here.running, hend, Or.inr ⟨q, rfl, E, ce, locs, hx _ hT (X'.ends _).1.alike, hcell9, hv, hcl, (X'.ends _).1, (X'.ends _).2.mono hc hs, hf⟩⟩
  rw [X.pushThrowing_eq]
  exact st
/-- a thing of a world lies in the heap -/
theorem vx_lt {D : va_G} {cl : List vw_C} {ws : va_W} {H1 : Heap} (h : va_P D cl ws H1) {k : Nat} {q : Nat × va_E} (hk : ws[k]? = some q) : q.1 < H1.size := (h k q hk).lt
end VXS
/-! ===== END ===== -/
/-! ===== BEGIN methods with a table of their own: called by a name, returning or throwing ===== -/
section VXH
/-! vx_backW, vx_callVX, vx_callSX, vx_callVW, vx_runVW, vx_runVX, vx_runSX, vx_ofWH follow the same proofs as their sisters above (Free/Laws.lean, Shelf42/LK1.lean); vx_outP calls Shelf42/NT130.lean (outThrough). -/
section
variable {l : Launch} {R : Room} {p : Program} {e : Env} {below : List Frame} {s : State} {sargs : Array Value} {y : MethodName} {len W9 : Nat}
theorem vx_backW {ws : List Cond} {rm : Room} {Pc : Array Value → State → Prop} {Qc : Array Value → State → Outcome → State → Prop} {XC : String → State → State → Prop} {mc ms : Nat} {free : Addr → Prop} {bytes : ByteArray} {maxL : Nat} {ret : Option FieldType} {hh : List (Nat × Nat × Nat × Nat)}
    (hM : vx_Met l y ws rm Pc Qc XC mc ms free) (hblind : FrameBlind Pc) (hrc : rm.cells = mc) (hrs : rm.slots = ms)
    (hframes : rm.frames + 1 ≤ R.frames) (hlocals : W9 + (maxL + 11) + rm.locals ≤ R.locals)
    (hws : ∀ w ∈ ws, ∀ a' U, s.WarmedH U.vm → w.before a' U = true) (hcode : Cond.codeWith y bytes maxL ret hh ∈ ws) (hinit : ∀ a' U, s.WarmedH U.vm → (Cond.initialized y.cls).before a' U = true) :
    vx_Back l R p e below s sargs y len W9 (PreOf R mc ms Pc) (PostOf Qc mc ms free) (vx_Post XC mc ms free) := by
  intro m meth c A g ig mk a X hg hsize hdg hW hn hp
  have h1 : (headSpec ws rm).pre.before a A.U = true := atoms_intro fun w hw => hws w hw _ _ X.warmed
  have h2 : (Cond.codeWith y bytes maxL ret hh).before a A.U = true := hws _ hcode _ _ X.warmed
  have h3 : (Cond.initialized y.cls).before a A.U = true := hinit _ _ X.warmed
  have h4 : A.cells + (headSpec ws rm).room.cells ≤ R.cells := by rw [show (headSpec ws rm).room.cells = mc from hrc]; exact hp.1
  have h5 : A.slots + (headSpec ws rm).room.slots ≤ R.slots := by rw [show (headSpec ws rm).room.slots = ms from hrs]; exact hp.2.1
  have hPc : Pc a (A.U.calling g mk a) := hblind _ _ _ _ hp.2.2
  obtain ⟨U, Ls, c0, s0⟩ := A
  dsimp only [Pt.U, Pt.locs, Pt.cells, Pt.slots] at h1 h2 h3 h4 h5 X hn hPc ⊢
  obtain ⟨m9, methY, cY, hn9, hmY, hcY, -, hlY, -⟩ := Cond.codeWith_spec h2
  cases Option.some.inj (hn9.symm.trans hn)
  obtain ⟨kY, hkY, -⟩ := className_of_methodNamed hn
  have hinitY : kY.init = .initialized := Cond.initialized_spec (findClass_of_methodNamed hn) hkY h3
  have h : At U g.method c below := by rw [hg]; exact X.here
  have hlocals9 : W9 + (maxL + 11) + (headSpec ws rm).room.locals ≤ R.locals := hlocals
  have happ : (headSpec ws rm).appliesLoose y e.platform (U.calling g mk a) = true :=
    Spec.appliesLoose_calling (g := g) h hdg hn hkY hinitY
      (X.room_calling (g := g) (R' := (headSpec ws rm).room) hsize hmY hcY hframes (by rw [hlY]; omega) h4 h5) h1
  obtain ⟨mid, hmid⟩ := h.above
  have hfr : (U.setTop g).frames = (.java g :: mid) ++ below := by rw [State.frames_setTop' g h.top, hmid]; rfl
  obtain ⟨o, s₂, hsteps, -, hend, hq⟩ := Steps.callFree hM p X.admits X.cas X.clock (acts := []) hfr happ hPc trivial
  have hq' : vx_Q Qc XC mc ms free a (U.calling g mk a) o s₂ := hq
  rw [State.frames_setTop' g h.top] at hend
  obtain ⟨g₀, hg0⟩ := Option.isSome_iff_exists.mp h.top
  obtain ⟨r, hr⟩ := State.topJava?_eq_some.mp hg0
  have hr' : (({ U with heap := s₂.heap, slotsUsed := s₂.slotsUsed } : State).setVm s₂.vm).frames = .java g₀ :: r := hr
  rcases hq' with ⟨hqc, L, hfe, hL⟩ | ⟨q, rfl, E, ce, L, hx, hce, hcv, hcl, hW₂, hsm, hL⟩
  · obtain ⟨⟨v, rfl⟩, hW₂, e2, q2, q3, q4, q5, q6⟩ := id hfe
    have e3 : s₂ = ({ (U.calling g mk a).setFrames s₂.frames with heap := s₂.heap, slotsUsed := s₂.slotsUsed } : State).setVm s₂.vm := by
      have : s₂ = ({ s₂ with vm := (U.calling g mk a).vm } : State).setVm s₂.vm := rfl
      rw [e2] at this
      exact this
    obtain ⟨c₂, i₂, len₂, hc₂, hd₂, hf₂⟩ := hend
    have hW' : U.WarmedH s₂.vm := hW₂
    have hcc : c₂ = c := by
      have h1 : s₂.code? g.method = U.code? g.method := by
        rw [State.code?_eq, State.code?_eq, hW'.alike.method?]
      exact Option.some.inj (hc₂.symm.trans (h1.trans h.code))
    subst hcc
    have hlen : len₂ = len := by rw [hdg] at hd₂; cases hd₂; rfl
    subst hlen
    have hs₂ : s₂ = (({ U with heap := s₂.heap, slotsUsed := s₂.slotsUsed } : State).setVm s₂.vm).setTop { g with pc := g.pc + len₂, stack := v.toList ++ g.stack } := by
      refine e3.trans ?_
      rw [hf₂, State.calling_eq h.top, State.setFrames_setFrames, State.setTop_of_frames _ hr', hr]
      rfl
    have hsame : U.sameButNew ({ U with heap := s₂.heap, slotsUsed := s₂.slotsUsed } : State) L mc ms := by
      refine ⟨?_, q2, q3, q4, q5, q6⟩
      obtain ⟨t, ht, -⟩ := State.frames_cons hr
      show ({ U with heap := s₂.heap, slotsUsed := s₂.slotsUsed } : State) = { U.setFrames U.frames with heap := s₂.heap, slotsUsed := s₂.slotsUsed }
      rw [State.setFrames_self ht]
    subst hg
    refine Or.inl ⟨v, ⟨(({ U with heap := s₂.heap, slotsUsed := s₂.slotsUsed } : State).setVm s₂.vm), Ls ++ L, c0 + mc, s0 + ms⟩,
      ⟨X.admits, X.cas, X.clock, X.frames, X.room, X.hears, X.method, X.code, (X.here.setHeapUsed s₂.heap s₂.slotsUsed).setVm hW'.alike, X.tail, State.WarmedH.trans X.warmed hW', X.limits, X.bytes, X.same.trans (hsame.setVm s.vm)⟩,
      ⟨g, mk, s₂, L, rfl, rfl, hqc, rfl, hL, rfl, rfl⟩, ?_⟩
    show Steps p.tables e below _ ((({ U with heap := s₂.heap, slotsUsed := s₂.slotsUsed } : State).setVm s₂.vm).setTop { g with pc := g.pc + len₂, stack := v.toList ++ g.stack })
    rw [← hs₂]
    exact hsteps
  · obtain ⟨e2, q2, q3, q4, q5, q6⟩ := id hsm
    have e3 : s₂ = ({ (U.calling g mk a).setFrames s₂.frames with heap := s₂.heap, slotsUsed := s₂.slotsUsed } : State).setVm s₂.vm := by
      have : s₂ = ({ s₂ with vm := (U.calling g mk a).vm } : State).setVm s₂.vm := rfl
      rw [e2] at this
      exact this
    have hf₂ : s₂.frames = .throwing q :: .java g :: U.frames.tail := hend
    have hW' : U.WarmedH s₂.vm := hW₂
    have hs₂ : s₂ = ((({ U with heap := s₂.heap, slotsUsed := s₂.slotsUsed } : State).setVm s₂.vm).setTop g).pushFrame (.throwing q) := by
      refine e3.trans ?_
      rw [hf₂, State.calling_eq h.top, State.setFrames_setFrames, State.pushFrame, State.frames_setTop _ hr', State.setTop_of_frames _ hr', State.setFrames_setFrames, hr]
      rfl
    have hsame : U.sameButNew ({ U with heap := s₂.heap, slotsUsed := s₂.slotsUsed } : State) L mc ms := by
      refine ⟨?_, q2, q3, q4, q5, q6⟩
      obtain ⟨t, ht, -⟩ := State.frames_cons hr
      show ({ U with heap := s₂.heap, slotsUsed := s₂.slotsUsed } : State) = { U.setFrames U.frames with heap := s₂.heap, slotsUsed := s₂.slotsUsed }
      rw [State.setFrames_self ht]
    subst hg
    refine Or.inr ⟨q, ⟨(({ U with heap := s₂.heap, slotsUsed := s₂.slotsUsed } : State).setVm s₂.vm), Ls ++ L, c0 + mc, s0 + ms⟩,
      ⟨X.admits, X.cas, X.clock, X.frames, X.room, X.hears, X.method, X.code, (X.here.setHeapUsed s₂.heap s₂.slotsUsed).setVm hW'.alike, X.tail, State.WarmedH.trans X.warmed hW', X.limits, X.bytes, X.same.trans (hsame.setVm s.vm)⟩,
      ⟨g, mk, s₂, L, E, ce, rfl, rfl, hx, hce, hcv, hcl, rfl, hL, rfl, rfl⟩, ?_⟩
    show Steps p.tables e below _ (((({ U with heap := s₂.heap, slotsUsed := s₂.slotsUsed } : State).setVm s₂.vm).setTop g).pushFrame (.throwing q))
    rw [← hs₂]
    exact hsteps
end
variable {p : Program} {l : Launch} {e : Env} {R : Room} {s : State} {m : MethodId} {args : Array Value} {below : List Frame} {meth : Method} {c : Code} {T : State} {H : Heap} {locs : List Loc} {cells slots : Nat}
theorem vx_callVX (X : Stand p l e R s m args below meth c T locs cells slots) (hexec : p.tables.exec = Jvm.exec) {own C : String} {index : Nat} {y : MethodName} {bytes : ByteArray} {maxL : Nat} {ret : Option FieldType} {hh : List (Nat × Nat × Nat × Nat)}
    (hown : s.vm.findClass own = some m.cls) (hlink : (Cond.methodLink own index y).before args s = true) (hinst : (Cond.instanceMethod y).before args s = true) (hsel : (Cond.selects C y y).before args s = true)
    (hcode : (Cond.codeWith y bytes maxL ret hh).before args s = true) (hy : y.cls ≠ "java/lang/invoke/MethodHandle" ∧ y.cls ≠ "java/lang/invoke/VarHandle")
    {W9 : Nat} {Pre : Pt → Array Value → Prop} {Post : Pt → Array Value → Option Value → Pt → Prop} {PostX : Pt → Array Value → Addr → Pt → Prop} (hK : vx_Back l R p e below s args y 3 W9 Pre Post PostX)
    {b : Addr} {cellB : Cell} (hcell : T.heap[b]? = some cellB) (hobj : cellB.vm.isStatics = false) (hcls : s.vm.findClass C = some cellB.cls)
    {g : JFrame} (hg : g.method = m) (hsize : g.locals.size = c.maxLocals) {argsL rest : List Value} (hlen : ∀ sig, parseMethodDescriptor y.desc = some sig → argsL.length = sig.parameters.length)
    (hstack : g.stack = argsL.reverse ++ .ref b :: rest) (hW : 2 * g.monitorRoom + (rest.map fun v => v.category).sum ≤ W9) (hdg : decode c.code g.pc = .ok (.invokevirtual index, 3))
    (hpre : ∀ vm₁, s.WarmedH vm₁ → Pre ⟨T.setVm vm₁, locs, cells, slots⟩ (Value.ref b :: argsL).toArray) :
    (∃ (v : Option Value) (vm₁ : Vm) (B : Pt), s.WarmedH vm₁ ∧ Stand p l e R s m args below meth c B.U B.locs B.cells B.slots ∧ Post ⟨T.setVm vm₁, locs, cells, slots⟩ (Value.ref b :: argsL).toArray v B ∧
      ∀ target, Steps p.tables e below (B.U.setTop { g with pc := g.pc + 3, stack := v.toList ++ rest }) target → Steps p.tables e below (T.setTop g) target) ∨
    (∃ (q : Addr) (vm₁ : Vm) (B : Pt), s.WarmedH vm₁ ∧ Stand p l e R s m args below meth c B.U B.locs B.cells B.slots ∧ PostX ⟨T.setVm vm₁, locs, cells, slots⟩ (Value.ref b :: argsL).toArray q B ∧
      Steps p.tables e below (T.setTop g) ((B.U.setTop { g with stack := rest }).pushFrame (.throwing q))) := by
  obtain ⟨mk, methM, hnamed, hmethM, hstM, habM⟩ := Cond.instanceMethod_spec hinst
  obtain ⟨m8, methM', cM, hn8, hmethM', -, -, -, -, -, -, hsigM⟩ := Cond.codeWith_spec hcode
  cases Option.some.inj (hn8.symm.trans hnamed)
  cases hmethM.symm.trans hmethM'
  obtain ⟨c2, r2, m2, q1, q2, q3, q4, kP, hkP, hkPi⟩ := Cond.selects_spec hsel
  cases hcls.symm.trans q1
  cases (State.methodFound?_of_named hnamed hy).symm.trans q2
  cases hnamed.symm.trans q3
  have hselP : selectMethod e.platform s.vm cellB.cls mk = .method mk := by rw [Launch.admits_selectMethod X.admits]; exact q4
  obtain ⟨vm₁, X₁, hstep₁⟩ := X.invokevirtual hexec hown hlink hnamed hmethM hstM hkP hkPi hy (a := b) (cell := cellB) hcell
    (fun z h => by rw [h] at hobj; cases hobj) hselP hmethM habM hkP hkPi (g := g) hg (argsL := argsL) (rest := rest) (hlen _ hsigM) hstack hdg
  rcases hK m meth c ⟨T.setVm vm₁, locs, cells, slots⟩ { g with stack := rest } (.invokevirtual index) mk (Value.ref b :: argsL).toArray X₁ hg hsize hdg hW (X₁.named hnamed) (hpre vm₁ X₁.warmed) with ⟨v, B, X', hpost, hsteps⟩ | ⟨q, B, X', hpost, hsteps⟩
  · exact Or.inl ⟨v, vm₁, B, X₁.warmed, X', hpost, fun target h => hstep₁ _ fun acts => by rw [doInvoke_state]; exact hsteps.trans h⟩
  · exact Or.inr ⟨q, vm₁, B, X₁.warmed, X', hpost, hstep₁ _ fun acts => by rw [doInvoke_state]; exact hsteps⟩
theorem vx_callSX (X : Stand p l e R s m args below meth c T locs cells slots) (hexec : p.tables.exec = Jvm.exec) {own : String} {index : Nat} {y : MethodName} {bytes : ByteArray} {maxL : Nat} {ret : Option FieldType} {hh : List (Nat × Nat × Nat × Nat)}
    (hown : s.vm.findClass own = some m.cls) (hlink : (Cond.methodLink own index y).before args s = true) (hstat : (Cond.static y).before args s = true) (hinit : (Cond.initialized y.cls).before args s = true)
    (hcode : (Cond.codeWith y bytes maxL ret hh).before args s = true) (hy : y.cls ≠ "java/lang/invoke/MethodHandle" ∧ y.cls ≠ "java/lang/invoke/VarHandle")
    {W9 : Nat} {Pre : Pt → Array Value → Prop} {Post : Pt → Array Value → Option Value → Pt → Prop} {PostX : Pt → Array Value → Addr → Pt → Prop} (hK : vx_Back l R p e below s args y 3 W9 Pre Post PostX)
    {g : JFrame} (hg : g.method = m) (hsize : g.locals.size = c.maxLocals) {argsL rest : List Value} (hlen : ∀ sig, parseMethodDescriptor y.desc = some sig → argsL.length = sig.parameters.length)
    (hstack : g.stack = argsL.reverse ++ rest) (hW : 2 * g.monitorRoom + (rest.map fun v => v.category).sum ≤ W9) (hdg : decode c.code g.pc = .ok (.invokestatic index, 3))
    (hpre : ∀ vm₁, s.WarmedH vm₁ → Pre ⟨T.setVm vm₁, locs, cells, slots⟩ argsL.toArray) :
    (∃ (v : Option Value) (vm₁ : Vm) (B : Pt), s.WarmedH vm₁ ∧ Stand p l e R s m args below meth c B.U B.locs B.cells B.slots ∧ Post ⟨T.setVm vm₁, locs, cells, slots⟩ argsL.toArray v B ∧
      ∀ target, Steps p.tables e below (B.U.setTop { g with pc := g.pc + 3, stack := v.toList ++ rest }) target → Steps p.tables e below (T.setTop g) target) ∨
    (∃ (q : Addr) (vm₁ : Vm) (B : Pt), s.WarmedH vm₁ ∧ Stand p l e R s m args below meth c B.U B.locs B.cells B.slots ∧ PostX ⟨T.setVm vm₁, locs, cells, slots⟩ argsL.toArray q B ∧
      Steps p.tables e below (T.setTop g) ((B.U.setTop { g with stack := rest }).pushFrame (.throwing q))) := by
  obtain ⟨mk, methM, cM, hnamed, hmethM, -, -, -, -, -, -, hsigM⟩ := Cond.codeWith_spec hcode
  have hstatic : methM.isStatic = true := Cond.static_spec hnamed hmethM hstat
  obtain ⟨kP, hkP, -⟩ := className_of_methodNamed hnamed
  have hinitP : kP.init = .initialized := Cond.initialized_spec (findClass_of_methodNamed hnamed) hkP hinit
  obtain ⟨vm₁, X₁, hstep₁⟩ := X.invokestatic hexec hown hlink hnamed hmethM hstatic hkP hinitP hy (g := g) hg (argsL := argsL) (rest := rest) (hlen _ hsigM) hstack hdg
  rcases hK m meth c ⟨T.setVm vm₁, locs, cells, slots⟩ { g with stack := rest } (.invokestatic index) mk argsL.toArray X₁ hg hsize hdg hW (X₁.named hnamed) (hpre vm₁ X₁.warmed) with ⟨v, B, X', hpost, hsteps⟩ | ⟨q, B, X', hpost, hsteps⟩
  · exact Or.inl ⟨v, vm₁, B, X₁.warmed, X', hpost, fun target h => hstep₁ _ fun acts => by rw [doInvoke_state]; exact hsteps.trans h⟩
  · exact Or.inr ⟨q, vm₁, B, X₁.warmed, X', hpost, hstep₁ _ fun acts => by rw [doInvoke_state]; exact hsteps⟩
theorem vx_callVW (X : Stand p l e R s m args below meth c T locs cells slots) (hexec : p.tables.exec = Jvm.exec) {own C : String} {index : Nat} {y : MethodName} {bytes : ByteArray} {maxL : Nat} {ret : Option FieldType} {hh : List (Nat × Nat × Nat × Nat)}
    (hown : s.vm.findClass own = some m.cls) (hlink : (Cond.methodLink own index y).before args s = true) (hinst : (Cond.instanceMethod y).before args s = true) (hsel : (Cond.selects C y y).before args s = true)
    (hcode : (Cond.codeWith y bytes maxL ret hh).before args s = true) (hy : y.cls ≠ "java/lang/invoke/MethodHandle" ∧ y.cls ≠ "java/lang/invoke/VarHandle")
    {W9 : Nat} {Pre : Pt → Array Value → Prop} {Post : Pt → Array Value → Option Value → Pt → Prop} (hK : Back l R p e below s args y 3 W9 Pre Post)
    {b : Addr} {cellB : Cell} (hcell : T.heap[b]? = some cellB) (hobj : cellB.vm.isStatics = false) (hcls : s.vm.findClass C = some cellB.cls)
    {g : JFrame} (hg : g.method = m) (hsize : g.locals.size = c.maxLocals) {argsL rest : List Value} (hlen : ∀ sig, parseMethodDescriptor y.desc = some sig → argsL.length = sig.parameters.length)
    (hstack : g.stack = argsL.reverse ++ .ref b :: rest) (hW : 2 * g.monitorRoom + (rest.map fun v => v.category).sum ≤ W9) (hdg : decode c.code g.pc = .ok (.invokevirtual index, 3))
    (hpre : ∀ vm₁, s.WarmedH vm₁ → Pre ⟨T.setVm vm₁, locs, cells, slots⟩ (Value.ref b :: argsL).toArray) :
    ∃ (v : Option Value) (vm₁ : Vm) (B : Pt), s.WarmedH vm₁ ∧ Stand p l e R s m args below meth c B.U B.locs B.cells B.slots ∧ Post ⟨T.setVm vm₁, locs, cells, slots⟩ (Value.ref b :: argsL).toArray v B ∧
      ∀ target, Steps p.tables e below (B.U.setTop { g with pc := g.pc + 3, stack := v.toList ++ rest }) target → Steps p.tables e below (T.setTop g) target := by
  obtain ⟨mk, methM, hnamed, hmethM, hstM, habM⟩ := Cond.instanceMethod_spec hinst
  obtain ⟨m8, methM', cM, hn8, hmethM', -, -, -, -, -, -, hsigM⟩ := Cond.codeWith_spec hcode
  cases Option.some.inj (hn8.symm.trans hnamed)
  cases hmethM.symm.trans hmethM'
  obtain ⟨c2, r2, m2, q1, q2, q3, q4, kP, hkP, hkPi⟩ := Cond.selects_spec hsel
  cases hcls.symm.trans q1
  cases (State.methodFound?_of_named hnamed hy).symm.trans q2
  cases hnamed.symm.trans q3
  have hselP : selectMethod e.platform s.vm cellB.cls mk = .method mk := by rw [Launch.admits_selectMethod X.admits]; exact q4
  obtain ⟨vm₁, X₁, hstep₁⟩ := X.invokevirtual hexec hown hlink hnamed hmethM hstM hkP hkPi hy (a := b) (cell := cellB) hcell
    (fun z h => by rw [h] at hobj; cases hobj) hselP hmethM habM hkP hkPi (g := g) hg (argsL := argsL) (rest := rest) (hlen _ hsigM) hstack hdg
  obtain ⟨v, B, X', hpost, hsteps⟩ := hK m meth c ⟨T.setVm vm₁, locs, cells, slots⟩ { g with stack := rest } (.invokevirtual index) mk (Value.ref b :: argsL).toArray X₁ hg hsize hdg hW (X₁.named hnamed) (hpre vm₁ X₁.warmed)
  exact ⟨v, vm₁, B, X₁.warmed, X', hpost, fun target h => hstep₁ _ fun acts => by rw [doInvoke_state]; exact hsteps.trans h⟩
abbrev vx_CVW (R : Room) (s : State) (args : Array Value) (own C : String) (index : Nat) (y : MethodName) (bytes : ByteArray) (maxL : Nat) (ret : Option FieldType) (hh : List (Nat × Nat × Nat × Nat)) (ws : List Cond) (rm : Room) (mc ms n : Nat) : Prop :=
  (rm.cells = mc ∧ rm.slots = ms ∧ rm.frames + 1 ≤ R.frames ∧ 8 + (maxL + 11) + rm.locals ≤ R.locals ∧ (∀ w ∈ ws, ∀ (a' : Array Value) (U : State), s.WarmedH U.vm → w.before a' U = true) ∧ Cond.codeWith y bytes maxL ret hh ∈ ws) ∧
  (Cond.codeWith y bytes maxL ret hh).before args s = true ∧ (Cond.initialized y.cls).before args s = true ∧ (y.cls ≠ "java/lang/invoke/MethodHandle" ∧ y.cls ≠ "java/lang/invoke/VarHandle") ∧
  (∀ sig, parseMethodDescriptor y.desc = some sig → n = sig.parameters.length) ∧ (Cond.methodLink own index y).before args s = true ∧ (Cond.instanceMethod y).before args s = true ∧ (Cond.selects C y y).before args s = true
theorem vx_cwVW {own C : String} {index maxL mc ms : Nat} {y : MethodName} {bytes : ByteArray} {ret : Option FieldType} {hh : List (Nat × Nat × Nat × Nat)} {Ts ws ws' : List Cond} {rm : Room} (n : Nat) (ht : ∀ w ∈ Ts, w.before args s = true) (hT : GoodIn Ts (wsV own index C y ws)) (hw : ws = Cond.codeWith y bytes maxL ret hh :: ws') (hrc : rm.cells = mc) (hrs : rm.slots = ms)
    (hd : y.cls = C ∧ y.cls ≠ "java/lang/invoke/MethodHandle" ∧ y.cls ≠ "java/lang/invoke/VarHandle" ∧ (parseMethodDescriptor y.desc).map (fun d => d.parameters.length) = some n) (hR : rm.frames + 1 ≤ R.frames ∧ 8 + (maxL + 11) + rm.locals ≤ R.locals) :
    vx_CVW R s args own C index y bytes maxL ret hh ws rm mc ms n := by
  obtain ⟨hC, hd⟩ := hd
  subst hC
  have ok : ∀ w ∈ wsV own index y.cls y ws, w.before args s = true := fun w h => ht w (hT w h).1
  have hG : GoodIn Ts ws := fun w h => hT w (by unfold wsV; exact List.mem_append_right _ h)
  have hc : Cond.codeWith y bytes maxL ret hh ∈ ws := by rw [hw]; exact List.mem_cons_self
  refine ⟨⟨hrc, hrs, hR.1, hR.2, pay_in ht hG, hc⟩, ht _ (hG _ hc).1, ok _ (by simp [wsV]), ⟨hd.1, hd.2.1⟩, fun sig h => ?_, ok _ (by simp [wsV]), ok _ (by simp [wsV]), ok _ (by simp [wsV])⟩
  have h2 := hd.2.2
  rw [h] at h2
  exact (Option.some.inj h2).symm
theorem vx_runVW {y : MethodName} {bytes cc : ByteArray} {maxL nL mc ms n index : Nat} {ret : Option FieldType} {hh : List (Nat × Nat × Nat × Nat)} {ws : List Cond} {rm : Room} {Pc : Array Value → State → Prop} {Qc : Array Value → State → Outcome → State → Prop} {free : Addr → Prop} {Ts : List Cond} {own C : String} {b : Addr} {As rest : List Value} {g : JFrame}
    (S : CallFix p m c cc nL s args Ts own) (hM : Met l y ws rm Pc Qc mc ms free) (cw : vx_CVW R s args own C index y bytes maxL ret hh ws rm mc ms n) (hp : PreV s H C b Pc As)
    (hg : g.method = m) (hn : As.length = n) (hsize : g.locals.size = nL) (hstack : g.stack = As.reverse ++ .ref b :: rest) (hW : 2 * g.monitorRoom + (rest.map fun v => v.category).sum ≤ 8) (hdg : decode cc g.pc = .ok (.invokevirtual index, 3)) (hf : cells + mc ≤ R.cells ∧ slots + ms ≤ R.slots) :
    va_Run p l e R s m args below meth c H locs cells slots mc ms g rest (Qc (Value.ref b :: As).toArray) free := by
  obtain ⟨⟨hrc, hrs, hfr, hlo, hws, hcw⟩, hcode, hini, hy, hlen, hl, hin, hse⟩ := cw
  have hK : Back l R p e below s args y 3 8 (PreOf R mc ms Pc) (PostOf Qc mc ms free) := va_backW (hh := hh) (bytes := bytes) (maxL := maxL) (ret := ret) hM hp.1 hrc hrs hfr hlo hws hcw (fun a' U hW => word_at hW (Or.inl (by first | rfl | simp [Cond.onTables, Cond.keeps, Cond.steady])) hini)
  obtain ⟨hx, hb, hml, ho, -⟩ := S
  obtain ⟨-, ⟨cellB, hcB, hoB, hclB⟩, hPc⟩ := hp
  intro T hT X
  obtain ⟨v, vm₁, ⟨U', l2, c2, s2⟩, hW₁, X', ⟨g', mk, t, L, e1, e2, hq, h1, hL, h2, h3⟩, st⟩ := vx_callVW X hx (C := C) (hh := hh) (bytes := bytes) (maxL := maxL) (ret := ret) ho hl hin hse hcode hy hK (by rw [hT]; exact hcB) hoB hclB hg (hsize.trans hml.symm) (argsL := As) (rest := rest) (fun sig h => hn.trans (hlen sig h)) hstack hW (by rw [hb]; exact hdg)
    (fun vm₁ hW₁ => ⟨hf.1, hf.2, hPc (T.setVm vm₁) hT hW₁⟩)
  dsimp only [Pt.U, Pt.locs, Pt.cells, Pt.slots] at X' e1 e2 h1 h2 h3 st
  subst h1; subst h2; subst h3
  exact ⟨v, (T.setVm vm₁).calling g' mk (Value.ref b :: As).toArray, t, U', L, hT, X', hL, e1, e2, hq, st⟩
section
variable {y : MethodName} {bytes cc : ByteArray} {maxL nL mc ms n index : Nat} {ret : Option FieldType} {ws : List Cond} {rm : Room} {Pc : Array Value → State → Prop} {Qc : Array Value → State → Outcome → State → Prop} {XC : String → State → State → Prop} {free : Addr → Prop} {Ts : List Cond} {own C : String} {b : Addr} {As rest : List Value} {g : JFrame}
theorem vx_runVX {hh : List (Nat × Nat × Nat × Nat)} (S : CallFix p m c cc nL s args Ts own) (hM : vx_Met l y ws rm Pc Qc XC mc ms free) (cw : vx_CVW R s args own C index y bytes maxL ret hh ws rm mc ms n) (hp : PreV s H C b Pc As)
    (hg : g.method = m) (hn : As.length = n) (hsize : g.locals.size = nL) (hstack : g.stack = As.reverse ++ .ref b :: rest) (hW : 2 * g.monitorRoom + (rest.map fun v => v.category).sum ≤ 8) (hdg : decode cc g.pc = .ok (.invokevirtual index, 3)) (hf : cells + mc ≤ R.cells ∧ slots + ms ≤ R.slots) :
    vx_Run p l e R s m args below meth c H locs cells slots mc ms g rest (Qc (Value.ref b :: As).toArray) XC free := by
  obtain ⟨⟨hrc, hrs, hfr, hlo, hws, hcw⟩, hcode, hini, hy, hlen, hl, hin, hse⟩ := cw
  have hK : vx_Back l R p e below s args y 3 8 (PreOf R mc ms Pc) (PostOf Qc mc ms free) (vx_Post XC mc ms free) := vx_backW (hh := hh) (bytes := bytes) (maxL := maxL) (ret := ret) hM hp.1 hrc hrs hfr hlo hws hcw (fun a' U hW => word_at hW (Or.inl (by first | rfl | simp [Cond.onTables, Cond.keeps, Cond.steady])) hini)
  obtain ⟨hx, hb, hml, ho, -⟩ := S
  obtain ⟨-, ⟨cellB, hcB, hoB, hclB⟩, hPc⟩ := hp
  intro T hT X
  rcases vx_callVX X hx (C := C) (hh := hh) (bytes := bytes) (maxL := maxL) (ret := ret) ho hl hin hse hcode hy hK (by rw [hT]; exact hcB) hoB hclB hg (hsize.trans hml.symm) (argsL := As) (rest := rest) (fun sig h => hn.trans (hlen sig h)) hstack hW (by rw [hb]; exact hdg)
    (fun vm₁ hW₁ => ⟨hf.1, hf.2, hPc (T.setVm vm₁) hT hW₁⟩) with ⟨v, vm₁, ⟨U', l2, c2, s2⟩, hW₁, X', ⟨g', mk, t, L, e1, e2, hq, h1, hL, h2, h3⟩, st⟩ | ⟨q, vm₁, ⟨U', l2, c2, s2⟩, hW₁, X', ⟨g', mk, t, L, E, ce, e1, e2, hq, hce, hcv, hcl, h1, hL, h2, h3⟩, st⟩
  · dsimp only [Pt.U, Pt.locs, Pt.cells, Pt.slots] at X' e1 e2 h1 h2 h3 st
    subst h1; subst h2; subst h3
    exact Or.inl ⟨v, (T.setVm vm₁).calling g' mk (Value.ref b :: As).toArray, t, U', L, hT, X', hL, e1, e2, hq, st⟩
  · dsimp only [Pt.U, Pt.locs, Pt.cells, Pt.slots] at X' e1 e2 h1 h2 h3 st hcl
    subst h1; subst h2; subst h3
    exact Or.inr ⟨q, (T.setVm vm₁).calling g' mk (Value.ref b :: As).toArray, t, U', L, E, ce, hT, X', hL, e1, e2, hq, hce, hcv, vx_cls hW₁ hcl, st⟩
theorem vx_runSX {hh : List (Nat × Nat × Nat × Nat)} (S : CallFix p m c cc nL s args Ts own) (hM : vx_Met l y ws rm Pc Qc XC mc ms free) (cw : vx_CSW R s args own index y bytes maxL ret hh ws rm mc ms n) (hp : PreS s H Pc As)
    (hg : g.method = m) (hn : As.length = n) (hsize : g.locals.size = nL) (hstack : g.stack = As.reverse ++ rest) (hW : 2 * g.monitorRoom + (rest.map fun v => v.category).sum ≤ 8) (hdg : decode cc g.pc = .ok (.invokestatic index, 3)) (hf : cells + mc ≤ R.cells ∧ slots + ms ≤ R.slots) :
    vx_Run p l e R s m args below meth c H locs cells slots mc ms g rest (Qc As.toArray) XC free := by
  obtain ⟨⟨hrc, hrs, hfr, hlo, hws, hcw⟩, hcode, hini, hy, hlen, hl, hstt⟩ := cw
  have hK : vx_Back l R p e below s args y 3 8 (PreOf R mc ms Pc) (PostOf Qc mc ms free) (vx_Post XC mc ms free) := vx_backW (hh := hh) (bytes := bytes) (maxL := maxL) (ret := ret) hM hp.1 hrc hrs hfr hlo hws hcw (fun a' U hW => word_at hW (Or.inl (by first | rfl | simp [Cond.onTables, Cond.keeps, Cond.steady])) hini)
  obtain ⟨hx, hb, hml, ho, -⟩ := S
  intro T hT X
  rcases vx_callSX X hx (hh := hh) (bytes := bytes) (maxL := maxL) (ret := ret) ho hl hstt hini hcode hy hK hg (hsize.trans hml.symm) (argsL := As) (rest := rest) (fun sig h => hn.trans (hlen sig h)) hstack hW (by rw [hb]; exact hdg)
    (fun vm₁ hW₁ => ⟨hf.1, hf.2, hp.2 (T.setVm vm₁) hT hW₁⟩) with ⟨v, vm₁, ⟨U', l2, c2, s2⟩, hW₁, X', ⟨g', mk, t, L, e1, e2, hq, h1, hL, h2, h3⟩, st⟩ | ⟨q, vm₁, ⟨U', l2, c2, s2⟩, hW₁, X', ⟨g', mk, t, L, E, ce, e1, e2, hq, hce, hcv, hcl, h1, hL, h2, h3⟩, st⟩
  · dsimp only [Pt.U, Pt.locs, Pt.cells, Pt.slots] at X' e1 e2 h1 h2 h3 st
    subst h1; subst h2; subst h3
    exact Or.inl ⟨v, (T.setVm vm₁).calling g' mk As.toArray, t, U', L, hT, X', hL, e1, e2, hq, st⟩
  · dsimp only [Pt.U, Pt.locs, Pt.cells, Pt.slots] at X' e1 e2 h1 h2 h3 st hcl
    subst h1; subst h2; subst h3
    exact Or.inr ⟨q, (T.setVm vm₁).calling g' mk As.toArray, t, U', L, E, ce, hT, X', hL, e1, e2, hq, hce, hcv, vx_cls hW₁ hcl, st⟩
end
end VXH
theorem vx_ofWH {l : Launch} {y : MethodName} {ws ws' : List Cond} {rm : Room} {Pc : Array Value → State → Prop} {Qc : Array Value → State → Outcome → State → Prop} {XC : String → State → State → Prop} {mc ms : Nat} {free : Addr → Prop} {cc : ByteArray} {maxL : Nat} {ret : Option FieldType} {hh : List (Nat × Nat × Nat × Nat)}
    (hy : plainName y.cls = true) (hw : ws = Cond.codeWith y cc maxL ret hh :: ws')
    (body : ∀ p e s m args below meth c s₁, BodyLoose p l y (headSpec ws rm) cc maxL ret e s m args below meth c s₁ → c.maxLocals = maxL → Pc args s →
      W p l e (headSpec ws rm).room s m args below meth c s.heap [] 0 0 (vx_MQ below Qc XC args s mc ms free) (entryFrame m args maxL)) : vx_Met l y ws rm Pc Qc XC mc ms free := by
  refine MetFree.of_bodyS (code := cc) (maxLocals := maxL) (ret := ret) hy ?_ ?_
  · intro args s m h hn
    obtain ⟨m9, meth, c, hn9, h1, h2, h3, h4, -, h5, h6, -⟩ := Cond.codeWith_spec (atoms_spec (ws := ws) h _ (by rw [hw]; exact List.mem_cons_self))
    cases hn.symm.trans hn9
    exact ⟨meth, c, h1, h2, h3, h4, h5, h6⟩
  · intro p e s m args below meth c s₁ B hml hP _
    have hh0 : s₁.heap = s.heap := by rw [B.state]; rfl
    obtain ⟨t, a1, o, b1, b2, b3⟩ := body p e s m args below meth c s₁ B hml hP s₁ hh0 (Stand.of_body B)
    exact ⟨t, o, a1, b1, b2, b3⟩
/-! ===== END ===== -/

/-! ===== BEGIN printed: names, fields, word lists, decode rows ===== -/
def RX0 : String := "LateDoves$Cote"
def TX0 : u_T := fun k => match k with
  | 0 => ("LateDoves$Cote", "doves", "[[I", true)
  | 1 => ("LateDoves$Cote", "holes", "[[I", true)
  | 2 => ("LateDoves$Cote", "settings", "[I", true)
  | 3 => ("LateDoves$Cote", "atDawn", "[I", true)
  | 4 => ("LateDoves$Cote", "stop", "[I", true)
  | 5 => ("LateDoves$Cote", "way", "LLateDoves$Way;", true)
  | 6 => ("LateDoves$Cote", "day", "I", false)
  | 7 => ("LateDoves$Cote", "time", "I", false)
  | 8 => ("LateDoves$Cote", "shifts", "I", false)
  | _ => ("LateDoves$Cote", "quarrels", "I", false)
def tyX0 : Nat → FieldType := fun k => match k with
  | 0 => .array (.array .int)
  | 1 => .array (.array .int)
  | 2 => .array .int
  | 3 => .array .int
  | 4 => .array .int
  | 5 => .object "LateDoves$Way"
  | 6 => .int
  | 7 => .int
  | 8 => .int
  | _ => .int
abbrev wsX00 : List Cond := u_ws RX0 TX0 10
theorem nmX0 : ∀ a, a < 10 → ∀ b, b < 10 → a ≠ b → (TX0 a).2.1 ≠ (TX0 b).2.1 := by decide +kernel
theorem tyX0_ok : ∀ k, k < 10 → parseFieldDescriptor (TX0 k).2.2.1 = some (tyX0 k) := by decide +kernel
abbrev cX0_init : ByteArray := prog_2_method_1_code
def yX0_init : MethodName := ⟨RX0, "<init>", "()V"⟩
abbrev cX0_copyFrom : ByteArray := prog_2_method_2_code
def yX0_copyFrom : MethodName := ⟨RX0, "copyFrom", "(LLateDoves$Cote;)V"⟩
abbrev cX0_exists : ByteArray := prog_2_method_3_code
def yX0_exists : MethodName := ⟨RX0, "exists", "(I)Z"⟩
abbrev cX0_isOpen : ByteArray := prog_2_method_4_code
def yX0_isOpen : MethodName := ⟨RX0, "isOpen", "(I)Z"⟩
abbrev cX0_isFree : ByteArray := prog_2_method_5_code
def yX0_isFree : MethodName := ⟨RX0, "isFree", "(I)Z"⟩
abbrev cX0_numberOf : ByteArray := prog_2_method_6_code
def yX0_numberOf : MethodName := ⟨RX0, "numberOf", "(I)I"⟩
abbrev cX0_doveCount : ByteArray := prog_2_method_7_code
def yX0_doveCount : MethodName := ⟨RX0, "doveCount", "()I"⟩
abbrev cX0_sittingByDoves : ByteArray := prog_2_method_8_code
def yX0_sittingByDoves : MethodName := ⟨RX0, "sittingByDoves", "()I"⟩
abbrev cX0_sittingByHoles : ByteArray := prog_2_method_9_code
def yX0_sittingByHoles : MethodName := ⟨RX0, "sittingByHoles", "()I"⟩
abbrev cX0_placedAt : ByteArray := prog_2_method_10_code
def yX0_placedAt : MethodName := ⟨RX0, "placedAt", "(I)I"⟩
abbrev cX0_inOwnHoles : ByteArray := prog_2_method_11_code
def yX0_inOwnHoles : MethodName := ⟨RX0, "inOwnHoles", "()I"⟩
abbrev cX0_openHoles : ByteArray := prog_2_method_12_code
def yX0_openHoles : MethodName := ⟨RX0, "openHoles", "()I"⟩
abbrev cX0_pairs : ByteArray := prog_2_method_13_code
def yX0_pairs : MethodName := ⟨RX0, "pairs", "()I"⟩
abbrev cX0_reasonNotHome : ByteArray := prog_2_method_14_code
def yX0_reasonNotHome : MethodName := ⟨RX0, "reasonNotHome", "(II)I"⟩
abbrev cX0_reasonNotToShut : ByteArray := prog_2_method_15_code
def yX0_reasonNotToShut : MethodName := ⟨RX0, "reasonNotToShut", "(I)I"⟩
abbrev cX0_reasonNotToBuy : ByteArray := prog_2_method_16_code
def yX0_reasonNotToBuy : MethodName := ⟨RX0, "reasonNotToBuy", "(I)I"⟩
abbrev cX0_reasonNotToPair : ByteArray := prog_2_method_17_code
def yX0_reasonNotToPair : MethodName := ⟨RX0, "reasonNotToPair", "(II)I"⟩
abbrev cX0_addDove : ByteArray := prog_2_method_18_code
def yX0_addDove : MethodName := ⟨RX0, "addDove", "(II)I"⟩
abbrev cX0_removeDove : ByteArray := prog_2_method_19_code
def yX0_removeDove : MethodName := ⟨RX0, "removeDove", "(I)I"⟩
abbrev cX0_pair : ByteArray := prog_2_method_20_code
def yX0_pair : MethodName := ⟨RX0, "pair", "(II)V"⟩
abbrev cX0_setOpen : ByteArray := prog_2_method_21_code
def yX0_setOpen : MethodName := ⟨RX0, "setOpen", "(II)V"⟩
abbrev cX0_noteStop : ByteArray := prog_2_method_22_code
def yX0_noteStop : MethodName := ⟨RX0, "noteStop", "(II)V"⟩
abbrev cX0_comeHome : ByteArray := prog_2_method_23_code
def yX0_comeHome : MethodName := ⟨RX0, "comeHome", "(II)I"⟩
abbrev cX0_enterOwnHole : ByteArray := prog_2_method_24_code
def yX0_enterOwnHole : MethodName := ⟨RX0, "enterOwnHole", "(IZ)I"⟩
abbrev cX0_settle : ByteArray := prog_2_method_25_code
def yX0_settle : MethodName := ⟨RX0, "settle", "(IZ)I"⟩
abbrev cX0_firstFreeFor : ByteArray := prog_2_method_26_code
def yX0_firstFreeFor : MethodName := ⟨RX0, "firstFreeFor", "(I)I"⟩
abbrev cX0_shiftFrom : ByteArray := prog_2_method_27_code
def yX0_shiftFrom : MethodName := ⟨RX0, "shiftFrom", "(II)I"⟩
abbrev cX0_sit : ByteArray := prog_2_method_28_code
def yX0_sit : MethodName := ⟨RX0, "sit", "(II)V"⟩
abbrev cX0_endNight : ByteArray := prog_2_method_29_code
def yX0_endNight : MethodName := ⟨RX0, "endNight", "()I"⟩
abbrev cX0_countAtDawn : ByteArray := prog_2_method_30_code
def yX0_countAtDawn : MethodName := ⟨RX0, "countAtDawn", "(I)V"⟩
def RX1 : String := "LateDoves$PartReader"
def TX1 : u_T := fun k => match k with
  | 0 => ("LateDoves$PartReader", "stage", "I", false)
  | 1 => ("LateDoves$PartReader", "kind", "I", false)
  | 2 => ("LateDoves$PartReader", "first", "I", false)
  | _ => ("LateDoves$PartReader", "second", "I", false)
def tyX1 : Nat → FieldType := fun k => match k with
  | 0 => .int
  | 1 => .int
  | 2 => .int
  | _ => .int
abbrev wsX10 : List Cond := u_ws RX1 TX1 4
theorem nmX1 : ∀ a, a < 4 → ∀ b, b < 4 → a ≠ b → (TX1 a).2.1 ≠ (TX1 b).2.1 := by decide +kernel
theorem tyX1_ok : ∀ k, k < 4 → parseFieldDescriptor (TX1 k).2.2.1 = some (tyX1 k) := by decide +kernel
abbrev cX1_init : ByteArray := prog_3_method_1_code
def yX1_init : MethodName := ⟨RX1, "<init>", "()V"⟩
abbrev cX1_begin : ByteArray := prog_3_method_2_code
def yX1_begin : MethodName := ⟨RX1, "begin", "()V"⟩
abbrev cX1_take : ByteArray := prog_3_method_3_code
def yX1_take : MethodName := ⟨RX1, "take", "(I)Z"⟩
abbrev cX1_isComplete : ByteArray := prog_3_method_4_code
def yX1_isComplete : MethodName := ⟨RX1, "isComplete", "()Z"⟩
abbrev cX1_takeLetter : ByteArray := prog_3_method_5_code
def yX1_takeLetter : MethodName := ⟨RX1, "takeLetter", "(I)Z"⟩
abbrev cX1_takeEnd : ByteArray := prog_3_method_6_code
def yX1_takeEnd : MethodName := ⟨RX1, "takeEnd", "()Z"⟩
abbrev cX1_takeSign : ByteArray := prog_3_method_7_code
def yX1_takeSign : MethodName := ⟨RX1, "takeSign", "(I)Z"⟩
abbrev cX1_takeDigit : ByteArray := prog_3_method_8_code
def yX1_takeDigit : MethodName := ⟨RX1, "takeDigit", "(I)Z"⟩
abbrev cX1_grown : ByteArray := prog_3_method_9_code
def yX1_grown : MethodName := ⟨RX1, "grown", "(II)I"⟩
abbrev cX1_signBehindFirst : ByteArray := prog_3_method_10_code
def yX1_signBehindFirst : MethodName := ⟨RX1, "signBehindFirst", "()I"⟩
abbrev cX1_highestFirst : ByteArray := prog_3_method_11_code
def yX1_highestFirst : MethodName := ⟨RX1, "highestFirst", "()I"⟩
abbrev cX1_lowestSecond : ByteArray := prog_3_method_12_code
def yX1_lowestSecond : MethodName := ⟨RX1, "lowestSecond", "()I"⟩
abbrev cX1_highestSecond : ByteArray := prog_3_method_13_code
def yX1_highestSecond : MethodName := ⟨RX1, "highestSecond", "()I"⟩
def RX2 : String := "LateDoves$Way"
def TX2 : u_T := fun k => match k with
  | 0 => ("LateDoves$Way", "who", "[I", true)
  | 1 => ("LateDoves$Way", "where", "[I", true)
  | _ => ("LateDoves$Way", "size", "I", false)
def tyX2 : Nat → FieldType := fun k => match k with
  | 0 => .array .int
  | 1 => .array .int
  | _ => .int
abbrev wsX20 : List Cond := u_ws RX2 TX2 3
theorem nmX2 : ∀ a, a < 3 → ∀ b, b < 3 → a ≠ b → (TX2 a).2.1 ≠ (TX2 b).2.1 := by decide +kernel
theorem tyX2_ok : ∀ k, k < 3 → parseFieldDescriptor (TX2 k).2.2.1 = some (tyX2 k) := by decide +kernel
abbrev cX2_init : ByteArray := prog_4_method_1_code
def yX2_init : MethodName := ⟨RX2, "<init>", "()V"⟩
abbrev cX2_copyFrom : ByteArray := prog_4_method_2_code
def yX2_copyFrom : MethodName := ⟨RX2, "copyFrom", "(LLateDoves$Way;)V"⟩
abbrev cX2_note : ByteArray := prog_4_method_3_code
def yX2_note : MethodName := ⟨RX2, "note", "(II)V"⟩
def RX3 : String := "LateDoves"
def TX3 : u_T := fun k => match k with
  | 0 => ("LateDoves", "now", "LLateDoves$Cote;", true)
  | 1 => ("LateDoves", "trial", "LLateDoves$Cote;", true)
  | 2 => ("LateDoves", "snapshot", "LLateDoves$Cote;", true)
  | 3 => ("LateDoves", "hasSnapshot", "Z", false)
  | 4 => ("LateDoves", "saved", "[LLateDoves$Cote;", true)
  | 5 => ("LateDoves", "savedCount", "I", false)
  | 6 => ("LateDoves", "buffer", "[I", true)
  | 7 => ("LateDoves", "length", "I", false)
  | _ => ("LateDoves", "reader", "LLateDoves$PartReader;", true)
def tyX3 : Nat → FieldType := fun k => match k with
  | 0 => .object "LateDoves$Cote"
  | 1 => .object "LateDoves$Cote"
  | 2 => .object "LateDoves$Cote"
  | 3 => .boolean
  | 4 => .array (.object "LateDoves$Cote")
  | 5 => .int
  | 6 => .array .int
  | 7 => .int
  | _ => .object "LateDoves$PartReader"
abbrev wsX30 : List Cond := u_ws RX3 TX3 9
theorem nmX3 : ∀ a, a < 9 → ∀ b, b < 9 → a ≠ b → (TX3 a).2.1 ≠ (TX3 b).2.1 := by decide +kernel
theorem tyX3_ok : ∀ k, k < 9 → parseFieldDescriptor (TX3 k).2.2.1 = some (tyX3 k) := by decide +kernel
abbrev cX3_init : ByteArray := prog_1_method_1_code
def yX3_init : MethodName := ⟨RX3, "<init>", "()V"⟩
abbrev cX3_buy : ByteArray := prog_1_method_2_code
def yX3_buy : MethodName := ⟨RX3, "buy", "(II)I"⟩
abbrev cX3_sell : ByteArray := prog_1_method_3_code
def yX3_sell : MethodName := ⟨RX3, "sell", "(I)I"⟩
abbrev cX3_mate : ByteArray := prog_1_method_4_code
def yX3_mate : MethodName := ⟨RX3, "mate", "(II)I"⟩
abbrev cX3_shut : ByteArray := prog_1_method_5_code
def yX3_shut : MethodName := ⟨RX3, "shut", "(I)I"⟩
abbrev cX3_open : ByteArray := prog_1_method_6_code
def yX3_open : MethodName := ⟨RX3, "open", "(I)I"⟩
abbrev cX3_set : ByteArray := prog_1_method_7_code
def yX3_set : MethodName := ⟨RX3, "set", "(II)I"⟩
abbrev cX3_home : ByteArray := prog_1_method_8_code
def yX3_home : MethodName := ⟨RX3, "home", "(II)I"⟩
abbrev cX3_dawn : ByteArray := prog_1_method_9_code
def yX3_dawn : MethodName := ⟨RX3, "dawn", "()I"⟩
abbrev cX3_append : ByteArray := prog_1_method_10_code
def yX3_append : MethodName := ⟨RX3, "append", "(I)I"⟩
abbrev cX3_clearBuffer : ByteArray := prog_1_method_11_code
def yX3_clearBuffer : MethodName := ⟨RX3, "clearBuffer", "()I"⟩
abbrev cX3_firstError : ByteArray := prog_1_method_12_code
def yX3_firstError : MethodName := ⟨RX3, "firstError", "()I"⟩
abbrev cX3_pass : ByteArray := prog_1_method_13_code
def yX3_pass : MethodName := ⟨RX3, "pass", "()I"⟩
abbrev cX3_stopped : ByteArray := prog_1_method_14_code
def yX3_stopped : MethodName := ⟨RX3, "stopped", "(I)I"⟩
abbrev cX3_undo : ByteArray := prog_1_method_15_code
def yX3_undo : MethodName := ⟨RX3, "undo", "()I"⟩
abbrev cX3_keep : ByteArray := prog_1_method_16_code
def yX3_keep : MethodName := ⟨RX3, "keep", "()I"⟩
abbrev cX3_restore : ByteArray := prog_1_method_17_code
def yX3_restore : MethodName := ⟨RX3, "restore", "()I"⟩
abbrev cX3_dove : ByteArray := prog_1_method_18_code
def yX3_dove : MethodName := ⟨RX3, "dove", "(II)I"⟩
abbrev cX3_hole : ByteArray := prog_1_method_19_code
def yX3_hole : MethodName := ⟨RX3, "hole", "(II)I"⟩
abbrev cX3_count : ByteArray := prog_1_method_20_code
def yX3_count : MethodName := ⟨RX3, "count", "(I)I"⟩
abbrev cX3_step : ByteArray := prog_1_method_21_code
def yX3_step : MethodName := ⟨RX3, "step", "(II)I"⟩
abbrev cX3_whyNot : ByteArray := prog_1_method_22_code
def yX3_whyNot : MethodName := ⟨RX3, "whyNot", "(II)I"⟩
abbrev cX3_ifHome : ByteArray := prog_1_method_23_code
def yX3_ifHome : MethodName := ⟨RX3, "ifHome", "(III)I"⟩
abbrev cX3_freeHole : ByteArray := prog_1_method_24_code
def yX3_freeHole : MethodName := ⟨RX3, "freeHole", "()I"⟩
abbrev cX3_lateIsAsGood : ByteArray := prog_1_method_25_code
def yX3_lateIsAsGood : MethodName := ⟨RX3, "lateIsAsGood", "()I"⟩
abbrev cX3_homeShare : ByteArray := prog_1_method_26_code
def yX3_homeShare : MethodName := ⟨RX3, "homeShare", "()D"⟩
abbrev cX3_digest : ByteArray := prog_1_method_27_code
def yX3_digest : MethodName := ⟨RX3, "digest", "()J"⟩
abbrev cX3_isHole : ByteArray := prog_1_method_28_code
def yX3_isHole : MethodName := ⟨RX3, "isHole", "(I)Z"⟩
abbrev cX3_needHole : ByteArray := prog_1_method_29_code
def yX3_needHole : MethodName := ⟨RX3, "needHole", "(I)V"⟩
abbrev cX3_needTime : ByteArray := prog_1_method_30_code
def yX3_needTime : MethodName := ⟨RX3, "needTime", "(I)V"⟩
abbrev cX3_needDove : ByteArray := prog_1_method_31_code
def yX3_needDove : MethodName := ⟨RX3, "needDove", "(I)V"⟩
abbrev cX3_save : ByteArray := prog_1_method_32_code
def yX3_save : MethodName := ⟨RX3, "save", "()V"⟩
abbrev cX3_playEvening : ByteArray := prog_1_method_33_code
def yX3_playEvening : MethodName := ⟨RX3, "playEvening", "()I"⟩
abbrev cX3_playPart : ByteArray := prog_1_method_34_code
def yX3_playPart : MethodName := ⟨RX3, "playPart", "()I"⟩
abbrev cX3_playHome : ByteArray := prog_1_method_35_code
def yX3_playHome : MethodName := ⟨RX3, "playHome", "(II)I"⟩
abbrev cX3_playBuy : ByteArray := prog_1_method_36_code
def yX3_playBuy : MethodName := ⟨RX3, "playBuy", "(II)I"⟩
abbrev cX3_playMate : ByteArray := prog_1_method_37_code
def yX3_playMate : MethodName := ⟨RX3, "playMate", "(II)I"⟩
abbrev cX3_playShut : ByteArray := prog_1_method_38_code
def yX3_playShut : MethodName := ⟨RX3, "playShut", "(I)I"⟩
abbrev cX3_tryHome : ByteArray := prog_1_method_39_code
def yX3_tryHome : MethodName := ⟨RX3, "tryHome", "(II)Z"⟩
abbrev cX3_trialNumber : ByteArray := prog_1_method_40_code
def yX3_trialNumber : MethodName := ⟨RX3, "trialNumber", "(II)I"⟩
abbrev cX3_sittingIfAllCame : ByteArray := prog_1_method_41_code
def yX3_sittingIfAllCame : MethodName := ⟨RX3, "sittingIfAllCame", "(I)I"⟩
abbrev cX3_mix : ByteArray := prog_1_method_42_code
def yX3_mix : MethodName := ⟨RX3, "mix", "(JJ)J"⟩
abbrev cX3_mixDove : ByteArray := prog_1_method_43_code
def yX3_mixDove : MethodName := ⟨RX3, "mixDove", "(JI)J"⟩
abbrev cX3_mixWay : ByteArray := prog_1_method_44_code
def yX3_mixWay : MethodName := ⟨RX3, "mixWay", "(J)J"⟩
abbrev cX3_bitsOfShare : ByteArray := prog_1_method_45_code
def yX3_bitsOfShare : MethodName := ⟨RX3, "bitsOfShare", "(D)J"⟩
def RX4 : String := "LateDovesModel"
def TX4 : u_T := fun k => match k with
  | 0 => ("LateDovesModel", "thrown", "I", false)
  | 1 => ("LateDovesModel", "z", "[I", true)
  | 2 => ("LateDovesModel", "aside", "[I", true)
  | 3 => ("LateDovesModel", "saved", "[I", true)
  | 4 => ("LateDovesModel", "saves", "I", false)
  | 5 => ("LateDovesModel", "kept", "[I", true)
  | 6 => ("LateDovesModel", "isKept", "Z", false)
  | 7 => ("LateDovesModel", "text", "[I", true)
  | 8 => ("LateDovesModel", "length", "I", false)
  | 9 => ("LateDovesModel", "letter", "I", false)
  | 10 => ("LateDovesModel", "first", "I", false)
  | _ => ("LateDovesModel", "second", "I", false)
def tyX4 : Nat → FieldType := fun k => match k with
  | 0 => .int
  | 1 => .array .int
  | 2 => .array .int
  | 3 => .array .int
  | 4 => .int
  | 5 => .array .int
  | 6 => .boolean
  | 7 => .array .int
  | 8 => .int
  | 9 => .int
  | 10 => .int
  | _ => .int
abbrev wsX40 : List Cond := u_ws RX4 TX4 12
theorem nmX4 : ∀ a, a < 12 → ∀ b, b < 12 → a ≠ b → (TX4 a).2.1 ≠ (TX4 b).2.1 := by decide +kernel
theorem tyX4_ok : ∀ k, k < 12 → parseFieldDescriptor (TX4 k).2.2.1 = some (tyX4 k) := by decide +kernel
abbrev cX4_init : ByteArray := prog_6_method_1_code
def yX4_init : MethodName := ⟨RX4, "<init>", "()V"⟩
abbrev cX4_thrown : ByteArray := prog_6_method_2_code
def yX4_thrown : MethodName := ⟨RX4, "thrown", "()I"⟩
abbrev cX4_in : ByteArray := prog_6_method_3_code
def yX4_in : MethodName := ⟨RX4, "in", "(III)Z"⟩
abbrev cX4_isHole : ByteArray := prog_6_method_4_code
def yX4_isHole : MethodName := ⟨RX4, "isHole", "(I)Z"⟩
abbrev cX4_of : ByteArray := prog_6_method_5_code
def yX4_of : MethodName := ⟨RX4, "of", "(II)I"⟩
abbrev cX4_put : ByteArray := prog_6_method_6_code
def yX4_put : MethodName := ⟨RX4, "put", "(III)V"⟩
abbrev cX4_isDove : ByteArray := prog_6_method_7_code
def yX4_isDove : MethodName := ⟨RX4, "isDove", "(I)Z"⟩
abbrev cX4_isOpen : ByteArray := prog_6_method_8_code
def yX4_isOpen : MethodName := ⟨RX4, "isOpen", "(I)Z"⟩
abbrev cX4_sitter : ByteArray := prog_6_method_9_code
def yX4_sitter : MethodName := ⟨RX4, "sitter", "(I)I"⟩
abbrev cX4_ownerOf : ByteArray := prog_6_method_10_code
def yX4_ownerOf : MethodName := ⟨RX4, "ownerOf", "(I)I"⟩
abbrev cX4_allDoves : ByteArray := prog_6_method_11_code
def yX4_allDoves : MethodName := ⟨RX4, "allDoves", "()I"⟩
abbrev cX4_dovesAt : ByteArray := prog_6_method_12_code
def yX4_dovesAt : MethodName := ⟨RX4, "dovesAt", "(II)I"⟩
abbrev cX4_openHoles : ByteArray := prog_6_method_13_code
def yX4_openHoles : MethodName := ⟨RX4, "openHoles", "()I"⟩
abbrev cX4_pairs : ByteArray := prog_6_method_14_code
def yX4_pairs : MethodName := ⟨RX4, "pairs", "()I"⟩
abbrev cX4_record : ByteArray := prog_6_method_15_code
def yX4_record : MethodName := ⟨RX4, "record", "()V"⟩
abbrev cX4_undo : ByteArray := prog_6_method_16_code
def yX4_undo : MethodName := ⟨RX4, "undo", "()I"⟩
abbrev cX4_keep : ByteArray := prog_6_method_17_code
def yX4_keep : MethodName := ⟨RX4, "keep", "()I"⟩
abbrev cX4_restore : ByteArray := prog_6_method_18_code
def yX4_restore : MethodName := ⟨RX4, "restore", "()I"⟩
abbrev cX4_putAside : ByteArray := prog_6_method_19_code
def yX4_putAside : MethodName := ⟨RX4, "putAside", "()V"⟩
abbrev cX4_putBack : ByteArray := prog_6_method_20_code
def yX4_putBack : MethodName := ⟨RX4, "putBack", "()V"⟩
abbrev cX4_isFree : ByteArray := prog_6_method_21_code
def yX4_isFree : MethodName := ⟨RX4, "isFree", "(I)Z"⟩
abbrev cX4_freeFor : ByteArray := prog_6_method_22_code
def yX4_freeFor : MethodName := ⟨RX4, "freeFor", "(I)I"⟩
abbrev cX4_sit : ByteArray := prog_6_method_23_code
def yX4_sit : MethodName := ⟨RX4, "sit", "(II)V"⟩
abbrev cX4_countShift : ByteArray := prog_6_method_24_code
def yX4_countShift : MethodName := ⟨RX4, "countShift", "(II)V"⟩
abbrev cX4_doHome : ByteArray := prog_6_method_25_code
def yX4_doHome : MethodName := ⟨RX4, "doHome", "(II)I"⟩
abbrev cX4_whyNoHome : ByteArray := prog_6_method_26_code
def yX4_whyNoHome : MethodName := ⟨RX4, "whyNoHome", "(II)I"⟩
abbrev cX4_home : ByteArray := prog_6_method_27_code
def yX4_home : MethodName := ⟨RX4, "home", "(II)I"⟩
abbrev cX4_doDawn : ByteArray := prog_6_method_28_code
def yX4_doDawn : MethodName := ⟨RX4, "doDawn", "()I"⟩
abbrev cX4_dawn : ByteArray := prog_6_method_29_code
def yX4_dawn : MethodName := ⟨RX4, "dawn", "()I"⟩
abbrev cX4_whyNoDove : ByteArray := prog_6_method_30_code
def yX4_whyNoDove : MethodName := ⟨RX4, "whyNoDove", "(I)I"⟩
abbrev cX4_doBuy : ByteArray := prog_6_method_31_code
def yX4_doBuy : MethodName := ⟨RX4, "doBuy", "(II)I"⟩
abbrev cX4_buy : ByteArray := prog_6_method_32_code
def yX4_buy : MethodName := ⟨RX4, "buy", "(II)I"⟩
abbrev cX4_sell : ByteArray := prog_6_method_33_code
def yX4_sell : MethodName := ⟨RX4, "sell", "(I)I"⟩
abbrev cX4_whyNoMates : ByteArray := prog_6_method_34_code
def yX4_whyNoMates : MethodName := ⟨RX4, "whyNoMates", "(II)I"⟩
abbrev cX4_doMate : ByteArray := prog_6_method_35_code
def yX4_doMate : MethodName := ⟨RX4, "doMate", "(II)I"⟩
abbrev cX4_mate : ByteArray := prog_6_method_36_code
def yX4_mate : MethodName := ⟨RX4, "mate", "(II)I"⟩
abbrev cX4_whyNoShut : ByteArray := prog_6_method_37_code
def yX4_whyNoShut : MethodName := ⟨RX4, "whyNoShut", "(I)I"⟩
abbrev cX4_shut : ByteArray := prog_6_method_38_code
def yX4_shut : MethodName := ⟨RX4, "shut", "(I)I"⟩
abbrev cX4_open : ByteArray := prog_6_method_39_code
def yX4_open : MethodName := ⟨RX4, "open", "(I)I"⟩
abbrev cX4_set : ByteArray := prog_6_method_40_code
def yX4_set : MethodName := ⟨RX4, "set", "(II)I"⟩
abbrev cX4_append : ByteArray := prog_6_method_41_code
def yX4_append : MethodName := ⟨RX4, "append", "(I)I"⟩
abbrev cX4_clearBuffer : ByteArray := prog_6_method_42_code
def yX4_clearBuffer : MethodName := ⟨RX4, "clearBuffer", "()I"⟩
abbrev cX4_at : ByteArray := prog_6_method_43_code
def yX4_at : MethodName := ⟨RX4, "at", "(I)I"⟩
abbrev cX4_readNumber : ByteArray := prog_6_method_44_code
def yX4_readNumber : MethodName := ⟨RX4, "readNumber", "(III)I"⟩
abbrev cX4_readTwo : ByteArray := prog_6_method_45_code
def yX4_readTwo : MethodName := ⟨RX4, "readTwo", "(IIIII)I"⟩
abbrev cX4_readPart : ByteArray := prog_6_method_46_code
def yX4_readPart : MethodName := ⟨RX4, "readPart", "(I)I"⟩
abbrev cX4_findError : ByteArray := prog_6_method_47_code
def yX4_findError : MethodName := ⟨RX4, "findError", "()I"⟩
abbrev cX4_firstError : ByteArray := prog_6_method_48_code
def yX4_firstError : MethodName := ⟨RX4, "firstError", "()I"⟩
abbrev cX4_whyNoPart : ByteArray := prog_6_method_49_code
def yX4_whyNoPart : MethodName := ⟨RX4, "whyNoPart", "()I"⟩
abbrev cX4_doPart : ByteArray := prog_6_method_50_code
def yX4_doPart : MethodName := ⟨RX4, "doPart", "()I"⟩
abbrev cX4_pass : ByteArray := prog_6_method_51_code
def yX4_pass : MethodName := ⟨RX4, "pass", "()I"⟩
abbrev cX4_stopped : ByteArray := prog_6_method_52_code
def yX4_stopped : MethodName := ⟨RX4, "stopped", "(I)I"⟩
abbrev cX4_doveNow : ByteArray := prog_6_method_53_code
def yX4_doveNow : MethodName := ⟨RX4, "doveNow", "(II)I"⟩
abbrev cX4_dove : ByteArray := prog_6_method_54_code
def yX4_dove : MethodName := ⟨RX4, "dove", "(II)I"⟩
abbrev cX4_holeNow : ByteArray := prog_6_method_55_code
def yX4_holeNow : MethodName := ⟨RX4, "holeNow", "(II)I"⟩
abbrev cX4_hole : ByteArray := prog_6_method_56_code
def yX4_hole : MethodName := ⟨RX4, "hole", "(II)I"⟩
abbrev cX4_countNow : ByteArray := prog_6_method_57_code
def yX4_countNow : MethodName := ⟨RX4, "countNow", "(I)I"⟩
abbrev cX4_count : ByteArray := prog_6_method_58_code
def yX4_count : MethodName := ⟨RX4, "count", "(I)I"⟩
abbrev cX4_step : ByteArray := prog_6_method_59_code
def yX4_step : MethodName := ⟨RX4, "step", "(II)I"⟩
abbrev cX4_whyNot : ByteArray := prog_6_method_60_code
def yX4_whyNot : MethodName := ⟨RX4, "whyNot", "(II)I"⟩
abbrev cX4_homeIf : ByteArray := prog_6_method_61_code
def yX4_homeIf : MethodName := ⟨RX4, "homeIf", "(III)I"⟩
abbrev cX4_ifHome : ByteArray := prog_6_method_62_code
def yX4_ifHome : MethodName := ⟨RX4, "ifHome", "(III)I"⟩
abbrev cX4_findHole : ByteArray := prog_6_method_63_code
def yX4_findHole : MethodName := ⟨RX4, "findHole", "()I"⟩
abbrev cX4_freeHole : ByteArray := prog_6_method_64_code
def yX4_freeHole : MethodName := ⟨RX4, "freeHole", "()I"⟩
abbrev cX4_inHolesIf : ByteArray := prog_6_method_65_code
def yX4_inHolesIf : MethodName := ⟨RX4, "inHolesIf", "(I)I"⟩
abbrev cX4_asGood : ByteArray := prog_6_method_66_code
def yX4_asGood : MethodName := ⟨RX4, "asGood", "()I"⟩
abbrev cX4_lateIsAsGood : ByteArray := prog_6_method_67_code
def yX4_lateIsAsGood : MethodName := ⟨RX4, "lateIsAsGood", "()I"⟩
abbrev cX4_share : ByteArray := prog_6_method_68_code
def yX4_share : MethodName := ⟨RX4, "share", "()D"⟩
abbrev cX4_homeShare : ByteArray := prog_6_method_69_code
def yX4_homeShare : MethodName := ⟨RX4, "homeShare", "()D"⟩
abbrev cX4_digest : ByteArray := prog_6_method_70_code
def yX4_digest : MethodName := ⟨RX4, "digest", "()J"⟩
def RJxe99ae : String := "java/lang/Double"
def TJxe99ae : u_T := fun k => match k with
  | _ => ("", "", "", false)
def tyJxe99ae : Nat → FieldType := fun k => match k with
  | _ => .int
abbrev wsJxe99ae0 : List Cond := u_ws RJxe99ae TJxe99ae 0
theorem nmJxe99ae : ∀ a, a < 0 → ∀ b, b < 0 → a ≠ b → (TJxe99ae a).2.1 ≠ (TJxe99ae b).2.1 := by decide +kernel
theorem tyJxe99ae_ok : ∀ k, k < 0 → parseFieldDescriptor (TJxe99ae k).2.2.1 = some (tyJxe99ae k) := by decide +kernel
abbrev cJxe99ae_isNaN_b9ae7 : ByteArray := prog_7_method_6_code
def yJxe99ae_isNaN_b9ae7 : MethodName := ⟨RJxe99ae, "isNaN", "(D)Z"⟩
abbrev cJxe99ae_doubleToLongBits_ccdee : ByteArray := prog_7_method_23_code
def yJxe99ae_doubleToLongBits_ccdee : MethodName := ⟨RJxe99ae, "doubleToLongBits", "(D)J"⟩
def RJ0 : String := "java/lang/String"
def TJ0 : u_T := fun k => match k with
  | _ => ("", "", "", false)
def tyJ0 : Nat → FieldType := fun k => match k with
  | _ => .int
abbrev wsJ00 : List Cond := u_ws RJ0 TJ0 0
theorem nmJ0 : ∀ a, a < 0 → ∀ b, b < 0 → a ≠ b → (TJ0 a).2.1 ≠ (TJ0 b).2.1 := by decide +kernel
theorem tyJ0_ok : ∀ k, k < 0 → parseFieldDescriptor (TJ0 k).2.2.1 = some (tyJ0 k) := by decide +kernel
def RJ10 : String := "java/lang/System"
def TJ10 : u_T := fun k => match k with
  | _ => ("", "", "", false)
def tyJ10 : Nat → FieldType := fun k => match k with
  | _ => .int
abbrev wsJ100 : List Cond := u_ws RJ10 TJ10 0
theorem nmJ10 : ∀ a, a < 0 → ∀ b, b < 0 → a ≠ b → (TJ10 a).2.1 ≠ (TJ10 b).2.1 := by decide +kernel
theorem tyJ10_ok : ∀ k, k < 0 → parseFieldDescriptor (TJ10 k).2.2.1 = some (tyJ10 k) := by decide +kernel
def RL : String := "LateDovesLaw"
abbrev cL_buy : ByteArray := method_3_code
def yL_buy : MethodName := ⟨RL, "buy", "(LLateDoves;II[J)I"⟩
abbrev cL_sell : ByteArray := method_4_code
def yL_sell : MethodName := ⟨RL, "sell", "(LLateDoves;I[J)I"⟩
abbrev cL_mate : ByteArray := method_5_code
def yL_mate : MethodName := ⟨RL, "mate", "(LLateDoves;II[J)I"⟩
abbrev cL_shut : ByteArray := method_6_code
def yL_shut : MethodName := ⟨RL, "shut", "(LLateDoves;I[J)I"⟩
abbrev cL_open : ByteArray := method_7_code
def yL_open : MethodName := ⟨RL, "open", "(LLateDoves;I[J)I"⟩
abbrev cL_set : ByteArray := method_8_code
def yL_set : MethodName := ⟨RL, "set", "(LLateDoves;II[J)I"⟩
abbrev cL_home : ByteArray := method_9_code
def yL_home : MethodName := ⟨RL, "home", "(LLateDoves;II[J)I"⟩
abbrev cL_append : ByteArray := method_10_code
def yL_append : MethodName := ⟨RL, "append", "(LLateDoves;I[J)I"⟩
abbrev cL_pass : ByteArray := method_11_code
def yL_pass : MethodName := ⟨RL, "pass", "(LLateDoves;[J)I"⟩
abbrev cL_stopped : ByteArray := method_12_code
def yL_stopped : MethodName := ⟨RL, "stopped", "(LLateDoves;I[J)I"⟩
abbrev cL_undo : ByteArray := method_13_code
def yL_undo : MethodName := ⟨RL, "undo", "(LLateDoves;[J)I"⟩
abbrev cL_restore : ByteArray := method_14_code
def yL_restore : MethodName := ⟨RL, "restore", "(LLateDoves;[J)I"⟩
abbrev cL_dove : ByteArray := method_15_code
def yL_dove : MethodName := ⟨RL, "dove", "(LLateDoves;II[J)I"⟩
abbrev cL_hole : ByteArray := method_16_code
def yL_hole : MethodName := ⟨RL, "hole", "(LLateDoves;II[J)I"⟩
abbrev cL_count : ByteArray := method_17_code
def yL_count : MethodName := ⟨RL, "count", "(LLateDoves;I[J)I"⟩
abbrev cL_step : ByteArray := method_18_code
def yL_step : MethodName := ⟨RL, "step", "(LLateDoves;II[J)I"⟩
abbrev cL_whyNot : ByteArray := method_19_code
def yL_whyNot : MethodName := ⟨RL, "whyNot", "(LLateDoves;II[J)I"⟩
abbrev cL_ifHome : ByteArray := method_20_code
def yL_ifHome : MethodName := ⟨RL, "ifHome", "(LLateDoves;III[J)I"⟩
abbrev cL_law : ByteArray := code
def yL_law : MethodName := ⟨RL, "law", "([I)Z"⟩
def wsX2_init : List Cond := .code yX2_init cX2_init 1 none :: ([.methodLink RX2 3 objectInit, .instanceMethod objectInit, .code objectInit ⟨#[0xb1]⟩ 1 none, .arrayClass .int, .fieldLink RX2 9 "LateDoves$Way" "who" "[I", .fieldLink RX2 15 "LateDoves$Way" "where" "[I", .fieldLink RX2 18 "LateDoves$Way" "size" "I"] ++ wsX20)
def wsX0_init : List Cond := .code yX0_init cX0_init 2 none :: ([.methodLink RX0 3 objectInit, .instanceMethod objectInit, .code objectInit ⟨#[0xb1]⟩ 1 none, .classLink RX0 9 "[[I", .arrayClass .int, .fieldLink RX0 11 "LateDoves$Cote" "doves" "[[I", .fieldLink RX0 16 "LateDoves$Cote" "holes" "[[I", .fieldLink RX0 19 "LateDoves$Cote" "settings" "[I", .fieldLink RX0 23 "LateDoves$Cote" "atDawn" "[I", .fieldLink RX0 26 "LateDoves$Cote" "stop" "[I", .classLink RX0 29 RX2, .instantiable RX2 3, .initialized RX2, .fieldLink RX0 32 "LateDoves$Cote" "way" "LLateDoves$Way;", .methodLink RX0 31 yX2_init, .instanceMethod yX2_init, .code yX2_init cX2_init 1 none, .methodLink RX2 3 objectInit, .fieldLink RX2 9 "LateDoves$Way" "who" "[I", .fieldLink RX2 15 "LateDoves$Way" "where" "[I", .fieldLink RX2 18 "LateDoves$Way" "size" "I"] ++ wsX00 ++ wsX20)
def wsX2_copyFrom : List Cond := .code yX2_copyFrom cX2_copyFrom 2 none :: ([.fieldLink RX2 9 "LateDoves$Way" "who" "[I", .methodLink RX2 22 arraycopyName, .native arraycopyName, .static arraycopyName, .initialized "java/lang/System", .fieldLink RX2 15 "LateDoves$Way" "where" "[I", .fieldLink RX2 18 "LateDoves$Way" "size" "I"] ++ wsX20)
def wsX0_copyFrom : List Cond := .code yX0_copyFrom cX0_copyFrom 3 none :: ([.fieldLink RX0 11 "LateDoves$Cote" "doves" "[[I", .methodLink RX0 36 arraycopyName, .native arraycopyName, .static arraycopyName, .initialized "java/lang/System", .fieldLink RX0 16 "LateDoves$Cote" "holes" "[[I", .fieldLink RX0 19 "LateDoves$Cote" "settings" "[I", .fieldLink RX0 23 "LateDoves$Cote" "atDawn" "[I", .fieldLink RX0 26 "LateDoves$Cote" "stop" "[I", .fieldLink RX0 32 "LateDoves$Cote" "way" "LLateDoves$Way;", .fieldLink RX0 46 "LateDoves$Cote" "day" "I", .fieldLink RX0 50 "LateDoves$Cote" "time" "I", .fieldLink RX0 53 "LateDoves$Cote" "shifts" "I", .fieldLink RX0 56 "LateDoves$Cote" "quarrels" "I", .methodLink RX0 42 yX2_copyFrom, .instanceMethod yX2_copyFrom, .selects RX2 yX2_copyFrom yX2_copyFrom, .initialized RX2, .code yX2_copyFrom cX2_copyFrom 2 none, .fieldLink RX2 9 "LateDoves$Way" "who" "[I", .methodLink RX2 22 arraycopyName, .fieldLink RX2 15 "LateDoves$Way" "where" "[I", .fieldLink RX2 18 "LateDoves$Way" "size" "I"] ++ wsX00 ++ wsX20)
def wsX0_exists : List Cond := .code yX0_exists cX0_exists 2 (some .boolean) :: ([.fieldLink RX0 11 "LateDoves$Cote" "doves" "[[I"] ++ wsX00)
def wsX3_isHole : List Cond := .code yX3_isHole cX3_isHole 1 (some .boolean) :: ([])
def wsX0_isOpen : List Cond := .code yX0_isOpen cX0_isOpen 2 (some .boolean) :: ([.fieldLink RX0 16 "LateDoves$Cote" "holes" "[[I", .static yX3_isHole, .initialized RX3, .code yX3_isHole cX3_isHole 1 (some .boolean)] ++ wsX00)
def wsX0_isFree : List Cond := .code yX0_isFree cX0_isFree 2 (some .boolean) :: ([.fieldLink RX0 16 "LateDoves$Cote" "holes" "[[I", .methodLink RX0 63 yX0_isOpen, .instanceMethod yX0_isOpen, .selects RX0 yX0_isOpen yX0_isOpen, .initialized RX0, .code yX0_isOpen cX0_isOpen 2 (some .boolean), .static yX3_isHole, .initialized RX3, .code yX3_isHole cX3_isHole 1 (some .boolean)] ++ wsX00)
def wsX0_doveCount : List Cond := .code yX0_doveCount cX0_doveCount 3 (some .int) :: ([.methodLink RX0 86 yX0_exists, .instanceMethod yX0_exists, .selects RX0 yX0_exists yX0_exists, .initialized RX0, .code yX0_exists cX0_exists 2 (some .boolean), .fieldLink RX0 11 "LateDoves$Cote" "doves" "[[I"] ++ wsX00)
def wsX0_placedAt : List Cond := .code yX0_placedAt cX0_placedAt 4 (some .int) :: ([.fieldLink RX0 11 "LateDoves$Cote" "doves" "[[I", .methodLink RX0 86 yX0_exists, .instanceMethod yX0_exists, .selects RX0 yX0_exists yX0_exists, .initialized RX0, .code yX0_exists cX0_exists 2 (some .boolean)] ++ wsX00)
def wsX0_sittingByDoves : List Cond := .code yX0_sittingByDoves cX0_sittingByDoves 1 (some .int) :: ([.methodLink RX0 66 yX0_doveCount, .instanceMethod yX0_doveCount, .selects RX0 yX0_doveCount yX0_doveCount, .initialized RX0, .code yX0_doveCount cX0_doveCount 3 (some .int), .methodLink RX0 86 yX0_exists, .instanceMethod yX0_exists, .selects RX0 yX0_exists yX0_exists, .code yX0_exists cX0_exists 2 (some .boolean), .fieldLink RX0 11 "LateDoves$Cote" "doves" "[[I", .methodLink RX0 76 yX0_placedAt, .instanceMethod yX0_placedAt, .selects RX0 yX0_placedAt yX0_placedAt, .code yX0_placedAt cX0_placedAt 4 (some .int)] ++ wsX00)
def wsX0_sittingByHoles : List Cond := .code yX0_sittingByHoles cX0_sittingByHoles 3 (some .int) :: ([.fieldLink RX0 16 "LateDoves$Cote" "holes" "[[I"] ++ wsX00)
def wsX0_openHoles : List Cond := .code yX0_openHoles cX0_openHoles 3 (some .int) :: ([.methodLink RX0 63 yX0_isOpen, .instanceMethod yX0_isOpen, .selects RX0 yX0_isOpen yX0_isOpen, .initialized RX0, .code yX0_isOpen cX0_isOpen 2 (some .boolean), .fieldLink RX0 16 "LateDoves$Cote" "holes" "[[I", .static yX3_isHole, .initialized RX3, .code yX3_isHole cX3_isHole 1 (some .boolean)] ++ wsX00)
def wsX0_pairs : List Cond := .code yX0_pairs cX0_pairs 3 (some .int) :: ([.fieldLink RX0 11 "LateDoves$Cote" "doves" "[[I", .methodLink RX0 86 yX0_exists, .instanceMethod yX0_exists, .selects RX0 yX0_exists yX0_exists, .initialized RX0, .code yX0_exists cX0_exists 2 (some .boolean)] ++ wsX00)
def wsX0_numberOf_r1 : List Cond := [Cond.fieldLink RX0 46 "LateDoves$Cote" "day" "I", Cond.fieldLink RX0 50 "LateDoves$Cote" "time" "I", Cond.fieldLink RX0 53 "LateDoves$Cote" "shifts" "I", Cond.fieldLink RX0 56 "LateDoves$Cote" "quarrels" "I", Cond.fieldLink RX0 23 "LateDoves$Cote" "atDawn" "[I", Cond.fieldLink RX0 19 "LateDoves$Cote" "settings" "[I", Cond.methodLink RX0 66 yX0_doveCount, Cond.instanceMethod yX0_doveCount, Cond.selects RX0 yX0_doveCount yX0_doveCount, Cond.initialized RX0, Cond.code yX0_doveCount cX0_doveCount 3 (some .int), Cond.methodLink RX0 86 yX0_exists, Cond.instanceMethod yX0_exists, Cond.selects RX0 yX0_exists yX0_exists, Cond.code yX0_exists cX0_exists 2 (some .boolean), Cond.fieldLink RX0 11 "LateDoves$Cote" "doves" "[[I", Cond.methodLink RX0 70 yX0_sittingByDoves, Cond.instanceMethod yX0_sittingByDoves, Cond.selects RX0 yX0_sittingByDoves yX0_sittingByDoves, Cond.code yX0_sittingByDoves cX0_sittingByDoves 1 (some .int), Cond.methodLink RX0 76 yX0_placedAt, Cond.instanceMethod yX0_placedAt, Cond.selects RX0 yX0_placedAt yX0_placedAt, Cond.code yX0_placedAt cX0_placedAt 4 (some .int)]
def wsX0_numberOf_r2 : List Cond := [Cond.methodLink RX0 73 yX0_sittingByHoles, Cond.instanceMethod yX0_sittingByHoles, Cond.selects RX0 yX0_sittingByHoles yX0_sittingByHoles, Cond.code yX0_sittingByHoles cX0_sittingByHoles 3 (some .int), Cond.fieldLink RX0 16 "LateDoves$Cote" "holes" "[[I", Cond.methodLink RX0 80 yX0_openHoles, Cond.instanceMethod yX0_openHoles, Cond.selects RX0 yX0_openHoles yX0_openHoles, Cond.code yX0_openHoles cX0_openHoles 3 (some .int), Cond.methodLink RX0 63 yX0_isOpen, Cond.instanceMethod yX0_isOpen, Cond.selects RX0 yX0_isOpen yX0_isOpen, Cond.code yX0_isOpen cX0_isOpen 2 (some .boolean), Cond.static yX3_isHole, Cond.initialized RX3, Cond.code yX3_isHole cX3_isHole 1 (some .boolean), Cond.methodLink RX0 83 yX0_pairs, Cond.instanceMethod yX0_pairs, Cond.selects RX0 yX0_pairs yX0_pairs, Cond.code yX0_pairs cX0_pairs 3 (some .int)]
def wsX0_numberOf : List Cond := .code yX0_numberOf cX0_numberOf 2 (some .int) :: ((wsX0_numberOf_r1 ++ wsX0_numberOf_r2) ++ wsX00)
def wsX0_inOwnHoles : List Cond := .code yX0_inOwnHoles cX0_inOwnHoles 3 (some .int) :: ([.fieldLink RX0 11 "LateDoves$Cote" "doves" "[[I", .methodLink RX0 86 yX0_exists, .instanceMethod yX0_exists, .selects RX0 yX0_exists yX0_exists, .initialized RX0, .code yX0_exists cX0_exists 2 (some .boolean)] ++ wsX00)
def wsX0_reasonNotHome : List Cond := .code yX0_reasonNotHome cX0_reasonNotHome 3 (some .int) :: ([.fieldLink RX0 11 "LateDoves$Cote" "doves" "[[I", .fieldLink RX0 50 "LateDoves$Cote" "time" "I"] ++ wsX00)
def wsX0_reasonNotToShut : List Cond := .code yX0_reasonNotToShut cX0_reasonNotToShut 2 (some .int) :: ([.fieldLink RX0 16 "LateDoves$Cote" "holes" "[[I", .methodLink RX0 63 yX0_isOpen, .instanceMethod yX0_isOpen, .selects RX0 yX0_isOpen yX0_isOpen, .initialized RX0, .code yX0_isOpen cX0_isOpen 2 (some .boolean), .static yX3_isHole, .initialized RX3, .code yX3_isHole cX3_isHole 1 (some .boolean)] ++ wsX00)
def wsX0_reasonNotToBuy : List Cond := .code yX0_reasonNotToBuy cX0_reasonNotToBuy 2 (some .int) :: ([.fieldLink RX0 16 "LateDoves$Cote" "holes" "[[I", .methodLink RX0 66 yX0_doveCount, .instanceMethod yX0_doveCount, .selects RX0 yX0_doveCount yX0_doveCount, .initialized RX0, .code yX0_doveCount cX0_doveCount 3 (some .int), .methodLink RX0 86 yX0_exists, .instanceMethod yX0_exists, .selects RX0 yX0_exists yX0_exists, .code yX0_exists cX0_exists 2 (some .boolean), .fieldLink RX0 11 "LateDoves$Cote" "doves" "[[I", .methodLink RX0 63 yX0_isOpen, .instanceMethod yX0_isOpen, .selects RX0 yX0_isOpen yX0_isOpen, .code yX0_isOpen cX0_isOpen 2 (some .boolean), .static yX3_isHole, .initialized RX3, .code yX3_isHole cX3_isHole 1 (some .boolean)] ++ wsX00)
def wsX0_reasonNotToPair : List Cond := .code yX0_reasonNotToPair cX0_reasonNotToPair 4 (some .int) :: ([.fieldLink RX0 11 "LateDoves$Cote" "doves" "[[I"] ++ wsX00)
def wsX0_addDove : List Cond := .code yX0_addDove cX0_addDove 4 (some .int) :: ([.fieldLink RX0 11 "LateDoves$Cote" "doves" "[[I", .fieldLink RX0 16 "LateDoves$Cote" "holes" "[[I", .methodLink RX0 86 yX0_exists, .instanceMethod yX0_exists, .selects RX0 yX0_exists yX0_exists, .initialized RX0, .code yX0_exists cX0_exists 2 (some .boolean)] ++ wsX00)
def wsX0_removeDove : List Cond := .code yX0_removeDove cX0_removeDove 6 (some .int) :: ([.fieldLink RX0 11 "LateDoves$Cote" "doves" "[[I", .fieldLink RX0 16 "LateDoves$Cote" "holes" "[[I", .static yX3_isHole, .initialized RX3, .code yX3_isHole cX3_isHole 1 (some .boolean), .methodLink RX0 86 yX0_exists, .instanceMethod yX0_exists, .selects RX0 yX0_exists yX0_exists, .initialized RX0, .code yX0_exists cX0_exists 2 (some .boolean)] ++ wsX00)
def wsX0_pair : List Cond := .code yX0_pair cX0_pair 3 none :: ([.fieldLink RX0 11 "LateDoves$Cote" "doves" "[[I"] ++ wsX00)
def wsX0_setOpen : List Cond := .code yX0_setOpen cX0_setOpen 3 none :: ([.fieldLink RX0 16 "LateDoves$Cote" "holes" "[[I"] ++ wsX00)
def wsX0_noteStop : List Cond := .code yX0_noteStop cX0_noteStop 3 none :: ([.fieldLink RX0 26 "LateDoves$Cote" "stop" "[I"] ++ wsX00)
def wsX2_note : List Cond := .code yX2_note cX2_note 3 none :: ([.fieldLink RX2 18 "LateDoves$Way" "size" "I", .fieldLink RX2 9 "LateDoves$Way" "who" "[I", .fieldLink RX2 15 "LateDoves$Way" "where" "[I"] ++ wsX20)
def wsX0_sit : List Cond := .code yX0_sit cX0_sit 3 none :: ([.fieldLink RX0 11 "LateDoves$Cote" "doves" "[[I", .fieldLink RX0 16 "LateDoves$Cote" "holes" "[[I", .fieldLink RX0 32 "LateDoves$Cote" "way" "LLateDoves$Way;", .static yX3_isHole, .initialized RX3, .code yX3_isHole cX3_isHole 1 (some .boolean), .methodLink RX0 113 yX2_note, .instanceMethod yX2_note, .selects RX2 yX2_note yX2_note, .initialized RX2, .code yX2_note cX2_note 3 none, .fieldLink RX2 18 "LateDoves$Way" "size" "I", .fieldLink RX2 9 "LateDoves$Way" "who" "[I", .fieldLink RX2 15 "LateDoves$Way" "where" "[I"] ++ wsX00 ++ wsX20)
def wsX0_shiftFrom : List Cond := .code yX0_shiftFrom cX0_shiftFrom 4 (some .int) :: ([.fieldLink RX0 16 "LateDoves$Cote" "holes" "[[I", .fieldLink RX0 53 "LateDoves$Cote" "shifts" "I", .fieldLink RX0 11 "LateDoves$Cote" "doves" "[[I", .fieldLink RX0 56 "LateDoves$Cote" "quarrels" "I", .methodLink RX0 103 yX0_sit, .instanceMethod yX0_sit, .selects RX0 yX0_sit yX0_sit, .initialized RX0, .code yX0_sit cX0_sit 3 none, .fieldLink RX0 32 "LateDoves$Cote" "way" "LLateDoves$Way;", .static yX3_isHole, .initialized RX3, .code yX3_isHole cX3_isHole 1 (some .boolean), .methodLink RX0 113 yX2_note, .instanceMethod yX2_note, .selects RX2 yX2_note yX2_note, .initialized RX2, .code yX2_note cX2_note 3 none, .fieldLink RX2 18 "LateDoves$Way" "size" "I", .fieldLink RX2 9 "LateDoves$Way" "who" "[I", .fieldLink RX2 15 "LateDoves$Way" "where" "[I"] ++ wsX00 ++ wsX20)
def wsX0_enterOwnHole_r1 : List Cond := [Cond.fieldLink RX0 11 "LateDoves$Cote" "doves" "[[I", Cond.fieldLink RX0 16 "LateDoves$Cote" "holes" "[[I", Cond.methodLink RX0 86 yX0_exists, Cond.instanceMethod yX0_exists, Cond.selects RX0 yX0_exists yX0_exists, Cond.initialized RX0, Cond.code yX0_exists cX0_exists 2 (some .boolean), Cond.methodLink RX0 99 yX0_shiftFrom, Cond.instanceMethod yX0_shiftFrom, Cond.selects RX0 yX0_shiftFrom yX0_shiftFrom, Cond.code yX0_shiftFrom cX0_shiftFrom 4 (some .int), Cond.fieldLink RX0 53 "LateDoves$Cote" "shifts" "I", Cond.fieldLink RX0 56 "LateDoves$Cote" "quarrels" "I", Cond.methodLink RX0 103 yX0_sit, Cond.instanceMethod yX0_sit, Cond.selects RX0 yX0_sit yX0_sit, Cond.code yX0_sit cX0_sit 3 none, Cond.fieldLink RX0 32 "LateDoves$Cote" "way" "LLateDoves$Way;", Cond.static yX3_isHole, Cond.initialized RX3, Cond.code yX3_isHole cX3_isHole 1 (some .boolean), Cond.methodLink RX0 113 yX2_note, Cond.instanceMethod yX2_note, Cond.selects RX2 yX2_note yX2_note]
def wsX0_enterOwnHole_r2 : List Cond := [Cond.initialized RX2, Cond.code yX2_note cX2_note 3 none, Cond.fieldLink RX2 18 "LateDoves$Way" "size" "I", Cond.fieldLink RX2 9 "LateDoves$Way" "who" "[I", Cond.fieldLink RX2 15 "LateDoves$Way" "where" "[I"]
def wsX0_enterOwnHole : List Cond := .code yX0_enterOwnHole cX0_enterOwnHole 5 (some .int) :: ((wsX0_enterOwnHole_r1 ++ wsX0_enterOwnHole_r2) ++ wsX00 ++ wsX20)
def wsX0_firstFreeFor : List Cond := .code yX0_firstFreeFor cX0_firstFreeFor 6 (some .int) :: ([.fieldLink RX0 11 "LateDoves$Cote" "doves" "[[I", .methodLink RX0 86 yX0_exists, .instanceMethod yX0_exists, .selects RX0 yX0_exists yX0_exists, .initialized RX0, .code yX0_exists cX0_exists 2 (some .boolean), .static yX3_isHole, .initialized RX3, .code yX3_isHole cX3_isHole 1 (some .boolean), .methodLink RX0 110 yX0_isFree, .instanceMethod yX0_isFree, .selects RX0 yX0_isFree yX0_isFree, .code yX0_isFree cX0_isFree 2 (some .boolean), .fieldLink RX0 16 "LateDoves$Cote" "holes" "[[I", .methodLink RX0 63 yX0_isOpen, .instanceMethod yX0_isOpen, .selects RX0 yX0_isOpen yX0_isOpen, .code yX0_isOpen cX0_isOpen 2 (some .boolean)] ++ wsX00)
def wsX0_settle_r1 : List Cond := [Cond.fieldLink RX0 11 "LateDoves$Cote" "doves" "[[I", Cond.fieldLink RX0 16 "LateDoves$Cote" "holes" "[[I", Cond.methodLink RX0 107 yX0_firstFreeFor, Cond.instanceMethod yX0_firstFreeFor, Cond.selects RX0 yX0_firstFreeFor yX0_firstFreeFor, Cond.initialized RX0, Cond.code yX0_firstFreeFor cX0_firstFreeFor 6 (some .int), Cond.methodLink RX0 86 yX0_exists, Cond.instanceMethod yX0_exists, Cond.selects RX0 yX0_exists yX0_exists, Cond.code yX0_exists cX0_exists 2 (some .boolean), Cond.static yX3_isHole, Cond.initialized RX3, Cond.code yX3_isHole cX3_isHole 1 (some .boolean), Cond.methodLink RX0 110 yX0_isFree, Cond.instanceMethod yX0_isFree, Cond.selects RX0 yX0_isFree yX0_isFree, Cond.code yX0_isFree cX0_isFree 2 (some .boolean), Cond.methodLink RX0 63 yX0_isOpen, Cond.instanceMethod yX0_isOpen, Cond.selects RX0 yX0_isOpen yX0_isOpen, Cond.code yX0_isOpen cX0_isOpen 2 (some .boolean), Cond.methodLink RX0 103 yX0_sit, Cond.instanceMethod yX0_sit]
def wsX0_settle_r2 : List Cond := [Cond.selects RX0 yX0_sit yX0_sit, Cond.code yX0_sit cX0_sit 3 none, Cond.fieldLink RX0 32 "LateDoves$Cote" "way" "LLateDoves$Way;", Cond.methodLink RX0 113 yX2_note, Cond.instanceMethod yX2_note, Cond.selects RX2 yX2_note yX2_note, Cond.initialized RX2, Cond.code yX2_note cX2_note 3 none, Cond.fieldLink RX2 18 "LateDoves$Way" "size" "I", Cond.fieldLink RX2 9 "LateDoves$Way" "who" "[I", Cond.fieldLink RX2 15 "LateDoves$Way" "where" "[I", Cond.methodLink RX0 99 yX0_shiftFrom, Cond.instanceMethod yX0_shiftFrom, Cond.selects RX0 yX0_shiftFrom yX0_shiftFrom, Cond.code yX0_shiftFrom cX0_shiftFrom 4 (some .int), Cond.fieldLink RX0 53 "LateDoves$Cote" "shifts" "I", Cond.fieldLink RX0 56 "LateDoves$Cote" "quarrels" "I"]
def wsX0_settle : List Cond := .code yX0_settle cX0_settle 6 (some .int) :: ((wsX0_settle_r1 ++ wsX0_settle_r2) ++ wsX00 ++ wsX20)
def wsX0_comeHome_r1 : List Cond := [Cond.fieldLink RX0 50 "LateDoves$Cote" "time" "I", Cond.fieldLink RX0 32 "LateDoves$Cote" "way" "LLateDoves$Way;", Cond.fieldLink RX0 53 "LateDoves$Cote" "shifts" "I", Cond.fieldLink RX0 19 "LateDoves$Cote" "settings" "[I", Cond.fieldLink RX0 11 "LateDoves$Cote" "doves" "[[I", Cond.methodLink RX0 63 yX0_isOpen, Cond.instanceMethod yX0_isOpen, Cond.selects RX0 yX0_isOpen yX0_isOpen, Cond.initialized RX0, Cond.code yX0_isOpen cX0_isOpen 2 (some .boolean), Cond.fieldLink RX0 16 "LateDoves$Cote" "holes" "[[I", Cond.static yX3_isHole, Cond.initialized RX3, Cond.code yX3_isHole cX3_isHole 1 (some .boolean), Cond.methodLink RX0 92 yX0_enterOwnHole, Cond.instanceMethod yX0_enterOwnHole, Cond.selects RX0 yX0_enterOwnHole yX0_enterOwnHole, Cond.code yX0_enterOwnHole cX0_enterOwnHole 5 (some .int), Cond.methodLink RX0 86 yX0_exists, Cond.instanceMethod yX0_exists, Cond.selects RX0 yX0_exists yX0_exists, Cond.code yX0_exists cX0_exists 2 (some .boolean), Cond.methodLink RX0 99 yX0_shiftFrom, Cond.instanceMethod yX0_shiftFrom]
def wsX0_comeHome_r2 : List Cond := [Cond.selects RX0 yX0_shiftFrom yX0_shiftFrom, Cond.code yX0_shiftFrom cX0_shiftFrom 4 (some .int), Cond.fieldLink RX0 56 "LateDoves$Cote" "quarrels" "I", Cond.methodLink RX0 103 yX0_sit, Cond.instanceMethod yX0_sit, Cond.selects RX0 yX0_sit yX0_sit, Cond.code yX0_sit cX0_sit 3 none, Cond.methodLink RX0 113 yX2_note, Cond.instanceMethod yX2_note, Cond.selects RX2 yX2_note yX2_note, Cond.initialized RX2, Cond.code yX2_note cX2_note 3 none, Cond.fieldLink RX2 18 "LateDoves$Way" "size" "I", Cond.fieldLink RX2 9 "LateDoves$Way" "who" "[I", Cond.fieldLink RX2 15 "LateDoves$Way" "where" "[I", Cond.methodLink RX0 96 yX0_settle, Cond.instanceMethod yX0_settle, Cond.selects RX0 yX0_settle yX0_settle, Cond.code yX0_settle cX0_settle 6 (some .int), Cond.methodLink RX0 107 yX0_firstFreeFor, Cond.instanceMethod yX0_firstFreeFor, Cond.selects RX0 yX0_firstFreeFor yX0_firstFreeFor, Cond.code yX0_firstFreeFor cX0_firstFreeFor 6 (some .int), Cond.methodLink RX0 110 yX0_isFree]
def wsX0_comeHome_r3 : List Cond := [Cond.instanceMethod yX0_isFree, Cond.selects RX0 yX0_isFree yX0_isFree, Cond.code yX0_isFree cX0_isFree 2 (some .boolean)]
def wsX0_comeHome : List Cond := .code yX0_comeHome cX0_comeHome 8 (some .int) :: ((wsX0_comeHome_r1 ++ (wsX0_comeHome_r2 ++ wsX0_comeHome_r3)) ++ wsX00 ++ wsX20)
def wsX0_countAtDawn : List Cond := .code yX0_countAtDawn cX0_countAtDawn 3 none :: ([.fieldLink RX0 11 "LateDoves$Cote" "doves" "[[I", .fieldLink RX0 23 "LateDoves$Cote" "atDawn" "[I"] ++ wsX00)
def wsX0_endNight : List Cond := .code yX0_endNight cX0_endNight 2 (some .int) :: ([.fieldLink RX0 23 "LateDoves$Cote" "atDawn" "[I", .fieldLink RX0 11 "LateDoves$Cote" "doves" "[[I", .fieldLink RX0 16 "LateDoves$Cote" "holes" "[[I", .fieldLink RX0 46 "LateDoves$Cote" "day" "I", .fieldLink RX0 50 "LateDoves$Cote" "time" "I", .methodLink RX0 86 yX0_exists, .instanceMethod yX0_exists, .selects RX0 yX0_exists yX0_exists, .initialized RX0, .code yX0_exists cX0_exists 2 (some .boolean), .methodLink RX0 116 yX0_countAtDawn, .instanceMethod yX0_countAtDawn, .selects RX0 yX0_countAtDawn yX0_countAtDawn, .code yX0_countAtDawn cX0_countAtDawn 3 none] ++ wsX00)
def wsX1_init : List Cond := .code yX1_init cX1_init 1 none :: ([.methodLink RX1 3 objectInit, .instanceMethod objectInit, .code objectInit ⟨#[0xb1]⟩ 1 none, .fieldLink RX1 11 "LateDoves$PartReader" "stage" "I", .fieldLink RX1 15 "LateDoves$PartReader" "kind" "I", .fieldLink RX1 18 "LateDoves$PartReader" "first" "I", .fieldLink RX1 21 "LateDoves$PartReader" "second" "I"] ++ wsX10)
def wsX1_begin : List Cond := .code yX1_begin cX1_begin 1 none :: ([.fieldLink RX1 11 "LateDoves$PartReader" "stage" "I", .fieldLink RX1 15 "LateDoves$PartReader" "kind" "I", .fieldLink RX1 18 "LateDoves$PartReader" "first" "I", .fieldLink RX1 21 "LateDoves$PartReader" "second" "I"] ++ wsX10)
def wsX1_takeLetter : List Cond := .code yX1_takeLetter cX1_takeLetter 2 (some .boolean) :: ([.fieldLink RX1 11 "LateDoves$PartReader" "stage" "I", .fieldLink RX1 15 "LateDoves$PartReader" "kind" "I"] ++ wsX10)
def wsX1_signBehindFirst : List Cond := .code yX1_signBehindFirst cX1_signBehindFirst 1 (some .int) :: ([.fieldLink RX1 15 "LateDoves$PartReader" "kind" "I"] ++ wsX10)
def wsX1_isComplete : List Cond := .code yX1_isComplete cX1_isComplete 1 (some .boolean) :: ([.fieldLink RX1 11 "LateDoves$PartReader" "stage" "I", .fieldLink RX1 18 "LateDoves$PartReader" "first" "I", .fieldLink RX1 21 "LateDoves$PartReader" "second" "I", .methodLink RX1 38 yX1_signBehindFirst, .instanceMethod yX1_signBehindFirst, .selects RX1 yX1_signBehindFirst yX1_signBehindFirst, .initialized RX1, .code yX1_signBehindFirst cX1_signBehindFirst 1 (some .int), .fieldLink RX1 15 "LateDoves$PartReader" "kind" "I"] ++ wsX10)
def wsX1_takeEnd : List Cond := .code yX1_takeEnd cX1_takeEnd 1 (some .boolean) :: ([.methodLink RX1 42 yX1_isComplete, .instanceMethod yX1_isComplete, .selects RX1 yX1_isComplete yX1_isComplete, .initialized RX1, .code yX1_isComplete cX1_isComplete 1 (some .boolean), .fieldLink RX1 11 "LateDoves$PartReader" "stage" "I", .fieldLink RX1 18 "LateDoves$PartReader" "first" "I", .fieldLink RX1 21 "LateDoves$PartReader" "second" "I", .methodLink RX1 38 yX1_signBehindFirst, .instanceMethod yX1_signBehindFirst, .selects RX1 yX1_signBehindFirst yX1_signBehindFirst, .code yX1_signBehindFirst cX1_signBehindFirst 1 (some .int), .fieldLink RX1 15 "LateDoves$PartReader" "kind" "I", .methodLink RX1 45 yX1_begin, .instanceMethod yX1_begin, .selects RX1 yX1_begin yX1_begin, .code yX1_begin cX1_begin 1 none] ++ wsX10)
def wsX1_grown : List Cond := .code yX1_grown cX1_grown 2 (some .int) :: ([])
def wsX1_highestFirst : List Cond := .code yX1_highestFirst cX1_highestFirst 1 (some .int) :: ([.fieldLink RX1 15 "LateDoves$PartReader" "kind" "I"] ++ wsX10)
def wsX1_lowestSecond : List Cond := .code yX1_lowestSecond cX1_lowestSecond 1 (some .int) :: ([.fieldLink RX1 15 "LateDoves$PartReader" "kind" "I"] ++ wsX10)
def wsX1_highestSecond : List Cond := .code yX1_highestSecond cX1_highestSecond 1 (some .int) :: ([.fieldLink RX1 15 "LateDoves$PartReader" "kind" "I"] ++ wsX10)
def wsX1_takeDigit : List Cond := .code yX1_takeDigit cX1_takeDigit 3 (some .boolean) :: ([.fieldLink RX1 11 "LateDoves$PartReader" "stage" "I", .fieldLink RX1 18 "LateDoves$PartReader" "first" "I", .fieldLink RX1 21 "LateDoves$PartReader" "second" "I", .methodLink RX1 48 yX1_grown, .static yX1_grown, .initialized RX1, .code yX1_grown cX1_grown 2 (some .int), .methodLink RX1 52 yX1_highestFirst, .instanceMethod yX1_highestFirst, .selects RX1 yX1_highestFirst yX1_highestFirst, .code yX1_highestFirst cX1_highestFirst 1 (some .int), .fieldLink RX1 15 "LateDoves$PartReader" "kind" "I", .methodLink RX1 55 yX1_lowestSecond, .instanceMethod yX1_lowestSecond, .selects RX1 yX1_lowestSecond yX1_lowestSecond, .code yX1_lowestSecond cX1_lowestSecond 1 (some .int), .methodLink RX1 58 yX1_highestSecond, .instanceMethod yX1_highestSecond, .selects RX1 yX1_highestSecond yX1_highestSecond, .code yX1_highestSecond cX1_highestSecond 1 (some .int)] ++ wsX10)
def wsX1_takeSign : List Cond := .code yX1_takeSign cX1_takeSign 2 (some .boolean) :: ([.fieldLink RX1 11 "LateDoves$PartReader" "stage" "I", .fieldLink RX1 18 "LateDoves$PartReader" "first" "I", .methodLink RX1 38 yX1_signBehindFirst, .instanceMethod yX1_signBehindFirst, .selects RX1 yX1_signBehindFirst yX1_signBehindFirst, .initialized RX1, .code yX1_signBehindFirst cX1_signBehindFirst 1 (some .int), .fieldLink RX1 15 "LateDoves$PartReader" "kind" "I"] ++ wsX10)
def wsX1_take_r1 : List Cond := [Cond.fieldLink RX1 11 "LateDoves$PartReader" "stage" "I", Cond.methodLink RX1 24 yX1_takeLetter, Cond.instanceMethod yX1_takeLetter, Cond.selects RX1 yX1_takeLetter yX1_takeLetter, Cond.initialized RX1, Cond.code yX1_takeLetter cX1_takeLetter 2 (some .boolean), Cond.fieldLink RX1 15 "LateDoves$PartReader" "kind" "I", Cond.methodLink RX1 28 yX1_takeEnd, Cond.instanceMethod yX1_takeEnd, Cond.selects RX1 yX1_takeEnd yX1_takeEnd, Cond.code yX1_takeEnd cX1_takeEnd 1 (some .boolean), Cond.methodLink RX1 42 yX1_isComplete, Cond.instanceMethod yX1_isComplete, Cond.selects RX1 yX1_isComplete yX1_isComplete, Cond.code yX1_isComplete cX1_isComplete 1 (some .boolean), Cond.fieldLink RX1 18 "LateDoves$PartReader" "first" "I", Cond.fieldLink RX1 21 "LateDoves$PartReader" "second" "I", Cond.methodLink RX1 38 yX1_signBehindFirst, Cond.instanceMethod yX1_signBehindFirst, Cond.selects RX1 yX1_signBehindFirst yX1_signBehindFirst, Cond.code yX1_signBehindFirst cX1_signBehindFirst 1 (some .int), Cond.methodLink RX1 45 yX1_begin, Cond.instanceMethod yX1_begin, Cond.selects RX1 yX1_begin yX1_begin]
def wsX1_take_r2 : List Cond := [Cond.code yX1_begin cX1_begin 1 none, Cond.methodLink RX1 32 yX1_takeDigit, Cond.instanceMethod yX1_takeDigit, Cond.selects RX1 yX1_takeDigit yX1_takeDigit, Cond.code yX1_takeDigit cX1_takeDigit 3 (some .boolean), Cond.methodLink RX1 48 yX1_grown, Cond.static yX1_grown, Cond.code yX1_grown cX1_grown 2 (some .int), Cond.methodLink RX1 52 yX1_highestFirst, Cond.instanceMethod yX1_highestFirst, Cond.selects RX1 yX1_highestFirst yX1_highestFirst, Cond.code yX1_highestFirst cX1_highestFirst 1 (some .int), Cond.methodLink RX1 55 yX1_lowestSecond, Cond.instanceMethod yX1_lowestSecond, Cond.selects RX1 yX1_lowestSecond yX1_lowestSecond, Cond.code yX1_lowestSecond cX1_lowestSecond 1 (some .int), Cond.methodLink RX1 58 yX1_highestSecond, Cond.instanceMethod yX1_highestSecond, Cond.selects RX1 yX1_highestSecond yX1_highestSecond, Cond.code yX1_highestSecond cX1_highestSecond 1 (some .int), Cond.methodLink RX1 35 yX1_takeSign, Cond.instanceMethod yX1_takeSign, Cond.selects RX1 yX1_takeSign yX1_takeSign, Cond.code yX1_takeSign cX1_takeSign 2 (some .boolean)]
def wsX1_take : List Cond := .code yX1_take cX1_take 2 (some .boolean) :: ((wsX1_take_r1 ++ wsX1_take_r2) ++ wsX10)
def wsX3_init_r1 : List Cond := [Cond.methodLink RX3 1 objectInit, Cond.instanceMethod objectInit, Cond.code objectInit ⟨#[0xb1]⟩ 1 none, Cond.classLink RX3 7 RX0, Cond.instantiable RX0 10, Cond.initialized RX0, Cond.fieldLink RX3 10 "LateDoves" "now" "LLateDoves$Cote;", Cond.fieldLink RX3 16 "LateDoves" "trial" "LLateDoves$Cote;", Cond.fieldLink RX3 19 "LateDoves" "snapshot" "LLateDoves$Cote;", Cond.fieldLink RX3 22 "LateDoves" "hasSnapshot" "Z", Cond.fieldLink RX3 26 "LateDoves" "saved" "[LLateDoves$Cote;", Cond.fieldLink RX3 30 "LateDoves" "savedCount" "I", Cond.arrayClass .int, Cond.fieldLink RX3 34 "LateDoves" "buffer" "[I", Cond.fieldLink RX3 38 "LateDoves" "length" "I", Cond.classLink RX3 41 RX1, Cond.instantiable RX1 4, Cond.initialized RX1, Cond.fieldLink RX3 44 "LateDoves" "reader" "LLateDoves$PartReader;", Cond.methodLink RX3 9 yX0_init, Cond.instanceMethod yX0_init, Cond.code yX0_init cX0_init 2 none, Cond.methodLink RX0 3 objectInit, Cond.classLink RX0 9 "[[I"]
def wsX3_init_r2 : List Cond := [Cond.fieldLink RX0 11 "LateDoves$Cote" "doves" "[[I", Cond.fieldLink RX0 16 "LateDoves$Cote" "holes" "[[I", Cond.fieldLink RX0 19 "LateDoves$Cote" "settings" "[I", Cond.fieldLink RX0 23 "LateDoves$Cote" "atDawn" "[I", Cond.fieldLink RX0 26 "LateDoves$Cote" "stop" "[I", Cond.classLink RX0 29 RX2, Cond.instantiable RX2 3, Cond.initialized RX2, Cond.fieldLink RX0 32 "LateDoves$Cote" "way" "LLateDoves$Way;", Cond.methodLink RX0 31 yX2_init, Cond.instanceMethod yX2_init, Cond.code yX2_init cX2_init 1 none, Cond.methodLink RX2 3 objectInit, Cond.fieldLink RX2 9 "LateDoves$Way" "who" "[I", Cond.fieldLink RX2 15 "LateDoves$Way" "where" "[I", Cond.fieldLink RX2 18 "LateDoves$Way" "size" "I", Cond.methodLink RX3 43 yX1_init, Cond.instanceMethod yX1_init, Cond.code yX1_init cX1_init 1 none, Cond.methodLink RX1 3 objectInit, Cond.fieldLink RX1 11 "LateDoves$PartReader" "stage" "I", Cond.fieldLink RX1 15 "LateDoves$PartReader" "kind" "I", Cond.fieldLink RX1 18 "LateDoves$PartReader" "first" "I", Cond.fieldLink RX1 21 "LateDoves$PartReader" "second" "I"]
def wsX3_init : List Cond := .code yX3_init cX3_init 2 none :: ((wsX3_init_r1 ++ wsX3_init_r2) ++ wsX00 ++ wsX30 ++ wsX10 ++ wsX20)
def wsX3_needHole : List Cond := .code yX3_needHole cX3_needHole 1 none :: ([.classLink RX3 105 "java/lang/IndexOutOfBoundsException", .initialized "java/lang/IndexOutOfBoundsException", .methodLink RX3 257 yX3_isHole, .static yX3_isHole, .initialized RX3, .code yX3_isHole cX3_isHole 1 (some .boolean)] ++ (vx_atS RX3 109 "java/lang/IndexOutOfBoundsException" ["java/lang/RuntimeException", "java/lang/Exception"]).filter goodWord)
def wsX3_save_r1 : List Cond := [Cond.fieldLink RX3 30 "LateDoves" "savedCount" "I", Cond.fieldLink RX3 26 "LateDoves" "saved" "[LLateDoves$Cote;", Cond.fieldLink RX3 10 "LateDoves" "now" "LLateDoves$Cote;", Cond.methodLink RX3 159 yX0_copyFrom, Cond.instanceMethod yX0_copyFrom, Cond.selects RX0 yX0_copyFrom yX0_copyFrom, Cond.initialized RX0, Cond.code yX0_copyFrom cX0_copyFrom 3 none, Cond.fieldLink RX0 11 "LateDoves$Cote" "doves" "[[I", Cond.methodLink RX0 36 arraycopyName, Cond.native arraycopyName, Cond.static arraycopyName, Cond.initialized "java/lang/System", Cond.fieldLink RX0 16 "LateDoves$Cote" "holes" "[[I", Cond.fieldLink RX0 19 "LateDoves$Cote" "settings" "[I", Cond.fieldLink RX0 23 "LateDoves$Cote" "atDawn" "[I", Cond.fieldLink RX0 26 "LateDoves$Cote" "stop" "[I", Cond.fieldLink RX0 32 "LateDoves$Cote" "way" "LLateDoves$Way;", Cond.fieldLink RX0 46 "LateDoves$Cote" "day" "I", Cond.fieldLink RX0 50 "LateDoves$Cote" "time" "I", Cond.fieldLink RX0 53 "LateDoves$Cote" "shifts" "I", Cond.fieldLink RX0 56 "LateDoves$Cote" "quarrels" "I", Cond.methodLink RX0 42 yX2_copyFrom, Cond.instanceMethod yX2_copyFrom]
def wsX3_save_r2 : List Cond := [Cond.selects RX2 yX2_copyFrom yX2_copyFrom, Cond.initialized RX2, Cond.code yX2_copyFrom cX2_copyFrom 2 none, Cond.fieldLink RX2 9 "LateDoves$Way" "who" "[I", Cond.methodLink RX2 22 arraycopyName, Cond.fieldLink RX2 15 "LateDoves$Way" "where" "[I", Cond.fieldLink RX2 18 "LateDoves$Way" "size" "I"]
def wsX3_save : List Cond := .code yX3_save cX3_save 3 none :: ((wsX3_save_r1 ++ wsX3_save_r2) ++ wsX30 ++ wsX00 ++ wsX20)
def wsX3_buy_r1 : List Cond := [Cond.classLink RX3 52 "java/lang/IllegalArgumentException", Cond.initialized "java/lang/IllegalArgumentException", Cond.classLink RX3 63 "java/lang/IllegalStateException", Cond.initialized "java/lang/IllegalStateException", Cond.fieldLink RX3 10 "LateDoves" "now" "LLateDoves$Cote;", Cond.methodLink RX3 48 yX3_needHole, Cond.static yX3_needHole, Cond.initialized RX3, Cond.code yX3_needHole cX3_needHole 1 none, Cond.classLink RX3 105 "java/lang/IndexOutOfBoundsException", Cond.initialized "java/lang/IndexOutOfBoundsException", Cond.methodLink RX3 257 yX3_isHole, Cond.static yX3_isHole, Cond.code yX3_isHole cX3_isHole 1 (some .boolean), Cond.methodLink RX3 59 yX0_reasonNotToBuy, Cond.instanceMethod yX0_reasonNotToBuy, Cond.selects RX0 yX0_reasonNotToBuy yX0_reasonNotToBuy, Cond.initialized RX0, Cond.code yX0_reasonNotToBuy cX0_reasonNotToBuy 2 (some .int), Cond.fieldLink RX0 16 "LateDoves$Cote" "holes" "[[I", Cond.methodLink RX0 66 yX0_doveCount, Cond.instanceMethod yX0_doveCount, Cond.selects RX0 yX0_doveCount yX0_doveCount, Cond.code yX0_doveCount cX0_doveCount 3 (some .int)]
def wsX3_buy_r2 : List Cond := [Cond.methodLink RX0 86 yX0_exists, Cond.instanceMethod yX0_exists, Cond.selects RX0 yX0_exists yX0_exists, Cond.code yX0_exists cX0_exists 2 (some .boolean), Cond.fieldLink RX0 11 "LateDoves$Cote" "doves" "[[I", Cond.methodLink RX0 63 yX0_isOpen, Cond.instanceMethod yX0_isOpen, Cond.selects RX0 yX0_isOpen yX0_isOpen, Cond.code yX0_isOpen cX0_isOpen 2 (some .boolean), Cond.methodLink RX3 68 yX3_save, Cond.instanceMethod yX3_save, Cond.selects RX3 yX3_save yX3_save, Cond.code yX3_save cX3_save 3 none, Cond.fieldLink RX3 30 "LateDoves" "savedCount" "I", Cond.fieldLink RX3 26 "LateDoves" "saved" "[LLateDoves$Cote;", Cond.methodLink RX3 159 yX0_copyFrom, Cond.instanceMethod yX0_copyFrom, Cond.selects RX0 yX0_copyFrom yX0_copyFrom, Cond.code yX0_copyFrom cX0_copyFrom 3 none, Cond.methodLink RX0 36 arraycopyName, Cond.native arraycopyName, Cond.static arraycopyName, Cond.initialized "java/lang/System", Cond.fieldLink RX0 19 "LateDoves$Cote" "settings" "[I"]
def wsX3_buy_r3 : List Cond := [Cond.fieldLink RX0 23 "LateDoves$Cote" "atDawn" "[I", Cond.fieldLink RX0 26 "LateDoves$Cote" "stop" "[I", Cond.fieldLink RX0 32 "LateDoves$Cote" "way" "LLateDoves$Way;", Cond.fieldLink RX0 46 "LateDoves$Cote" "day" "I", Cond.fieldLink RX0 50 "LateDoves$Cote" "time" "I", Cond.fieldLink RX0 53 "LateDoves$Cote" "shifts" "I", Cond.fieldLink RX0 56 "LateDoves$Cote" "quarrels" "I", Cond.methodLink RX0 42 yX2_copyFrom, Cond.instanceMethod yX2_copyFrom, Cond.selects RX2 yX2_copyFrom yX2_copyFrom, Cond.initialized RX2, Cond.code yX2_copyFrom cX2_copyFrom 2 none, Cond.fieldLink RX2 9 "LateDoves$Way" "who" "[I", Cond.methodLink RX2 22 arraycopyName, Cond.fieldLink RX2 15 "LateDoves$Way" "where" "[I", Cond.fieldLink RX2 18 "LateDoves$Way" "size" "I", Cond.methodLink RX3 71 yX0_addDove, Cond.instanceMethod yX0_addDove, Cond.selects RX0 yX0_addDove yX0_addDove, Cond.code yX0_addDove cX0_addDove 4 (some .int)]
def wsX3_buy : List Cond := .code yX3_buy cX3_buy 3 (some .int) :: ((wsX3_buy_r1 ++ (wsX3_buy_r2 ++ wsX3_buy_r3)) ++ wsX30 ++ wsX00 ++ wsX20 ++ (vx_atS RX3 56 "java/lang/IllegalArgumentException" ["java/lang/RuntimeException", "java/lang/Exception"]).filter goodWord ++ (vx_atS RX3 67 "java/lang/IllegalStateException" ["java/lang/RuntimeException", "java/lang/Exception"]).filter goodWord ++ (vx_atS RX3 109 "java/lang/IndexOutOfBoundsException" ["java/lang/RuntimeException", "java/lang/Exception"]).filter goodWord)
def wsX3_needDove : List Cond := .code yX3_needDove cX3_needDove 2 none :: ([.classLink RX3 105 "java/lang/IndexOutOfBoundsException", .initialized "java/lang/IndexOutOfBoundsException", .fieldLink RX3 10 "LateDoves" "now" "LLateDoves$Cote;", .methodLink RX3 232 yX0_exists, .instanceMethod yX0_exists, .selects RX0 yX0_exists yX0_exists, .initialized RX0, .code yX0_exists cX0_exists 2 (some .boolean), .fieldLink RX0 11 "LateDoves$Cote" "doves" "[[I"] ++ wsX30 ++ wsX00 ++ (vx_atS RX3 109 "java/lang/IndexOutOfBoundsException" ["java/lang/RuntimeException", "java/lang/Exception"]).filter goodWord)
def wsX3_sell_r1 : List Cond := [Cond.fieldLink RX3 10 "LateDoves" "now" "LLateDoves$Cote;", Cond.methodLink RX3 75 yX3_needDove, Cond.instanceMethod yX3_needDove, Cond.selects RX3 yX3_needDove yX3_needDove, Cond.initialized RX3, Cond.code yX3_needDove cX3_needDove 2 none, Cond.classLink RX3 105 "java/lang/IndexOutOfBoundsException", Cond.initialized "java/lang/IndexOutOfBoundsException", Cond.methodLink RX3 232 yX0_exists, Cond.instanceMethod yX0_exists, Cond.selects RX0 yX0_exists yX0_exists, Cond.initialized RX0, Cond.code yX0_exists cX0_exists 2 (some .boolean), Cond.fieldLink RX0 11 "LateDoves$Cote" "doves" "[[I", Cond.methodLink RX3 68 yX3_save, Cond.instanceMethod yX3_save, Cond.selects RX3 yX3_save yX3_save, Cond.code yX3_save cX3_save 3 none, Cond.fieldLink RX3 30 "LateDoves" "savedCount" "I", Cond.fieldLink RX3 26 "LateDoves" "saved" "[LLateDoves$Cote;", Cond.methodLink RX3 159 yX0_copyFrom, Cond.instanceMethod yX0_copyFrom, Cond.selects RX0 yX0_copyFrom yX0_copyFrom, Cond.code yX0_copyFrom cX0_copyFrom 3 none]
def wsX3_sell_r2 : List Cond := [Cond.methodLink RX0 36 arraycopyName, Cond.native arraycopyName, Cond.static arraycopyName, Cond.initialized "java/lang/System", Cond.fieldLink RX0 16 "LateDoves$Cote" "holes" "[[I", Cond.fieldLink RX0 19 "LateDoves$Cote" "settings" "[I", Cond.fieldLink RX0 23 "LateDoves$Cote" "atDawn" "[I", Cond.fieldLink RX0 26 "LateDoves$Cote" "stop" "[I", Cond.fieldLink RX0 32 "LateDoves$Cote" "way" "LLateDoves$Way;", Cond.fieldLink RX0 46 "LateDoves$Cote" "day" "I", Cond.fieldLink RX0 50 "LateDoves$Cote" "time" "I", Cond.fieldLink RX0 53 "LateDoves$Cote" "shifts" "I", Cond.fieldLink RX0 56 "LateDoves$Cote" "quarrels" "I", Cond.methodLink RX0 42 yX2_copyFrom, Cond.instanceMethod yX2_copyFrom, Cond.selects RX2 yX2_copyFrom yX2_copyFrom, Cond.initialized RX2, Cond.code yX2_copyFrom cX2_copyFrom 2 none, Cond.fieldLink RX2 9 "LateDoves$Way" "who" "[I", Cond.methodLink RX2 22 arraycopyName, Cond.fieldLink RX2 15 "LateDoves$Way" "where" "[I", Cond.fieldLink RX2 18 "LateDoves$Way" "size" "I", Cond.methodLink RX3 78 yX0_removeDove, Cond.instanceMethod yX0_removeDove]
def wsX3_sell_r3 : List Cond := [Cond.selects RX0 yX0_removeDove yX0_removeDove, Cond.code yX0_removeDove cX0_removeDove 6 (some .int), Cond.static yX3_isHole, Cond.code yX3_isHole cX3_isHole 1 (some .boolean), Cond.methodLink RX0 86 yX0_exists]
def wsX3_sell : List Cond := .code yX3_sell cX3_sell 2 (some .int) :: ((wsX3_sell_r1 ++ (wsX3_sell_r2 ++ wsX3_sell_r3)) ++ wsX30 ++ wsX00 ++ wsX20 ++ (vx_atS RX3 109 "java/lang/IndexOutOfBoundsException" ["java/lang/RuntimeException", "java/lang/Exception"]).filter goodWord)
def wsX3_mate_r1 : List Cond := [Cond.classLink RX3 63 "java/lang/IllegalStateException", Cond.initialized "java/lang/IllegalStateException", Cond.fieldLink RX3 10 "LateDoves" "now" "LLateDoves$Cote;", Cond.methodLink RX3 75 yX3_needDove, Cond.instanceMethod yX3_needDove, Cond.selects RX3 yX3_needDove yX3_needDove, Cond.initialized RX3, Cond.code yX3_needDove cX3_needDove 2 none, Cond.classLink RX3 105 "java/lang/IndexOutOfBoundsException", Cond.initialized "java/lang/IndexOutOfBoundsException", Cond.methodLink RX3 232 yX0_exists, Cond.instanceMethod yX0_exists, Cond.selects RX0 yX0_exists yX0_exists, Cond.initialized RX0, Cond.code yX0_exists cX0_exists 2 (some .boolean), Cond.fieldLink RX0 11 "LateDoves$Cote" "doves" "[[I", Cond.methodLink RX3 81 yX0_reasonNotToPair, Cond.instanceMethod yX0_reasonNotToPair, Cond.selects RX0 yX0_reasonNotToPair yX0_reasonNotToPair, Cond.code yX0_reasonNotToPair cX0_reasonNotToPair 4 (some .int), Cond.methodLink RX3 68 yX3_save, Cond.instanceMethod yX3_save, Cond.selects RX3 yX3_save yX3_save, Cond.code yX3_save cX3_save 3 none]
def wsX3_mate_r2 : List Cond := [Cond.fieldLink RX3 30 "LateDoves" "savedCount" "I", Cond.fieldLink RX3 26 "LateDoves" "saved" "[LLateDoves$Cote;", Cond.methodLink RX3 159 yX0_copyFrom, Cond.instanceMethod yX0_copyFrom, Cond.selects RX0 yX0_copyFrom yX0_copyFrom, Cond.code yX0_copyFrom cX0_copyFrom 3 none, Cond.methodLink RX0 36 arraycopyName, Cond.native arraycopyName, Cond.static arraycopyName, Cond.initialized "java/lang/System", Cond.fieldLink RX0 16 "LateDoves$Cote" "holes" "[[I", Cond.fieldLink RX0 19 "LateDoves$Cote" "settings" "[I", Cond.fieldLink RX0 23 "LateDoves$Cote" "atDawn" "[I", Cond.fieldLink RX0 26 "LateDoves$Cote" "stop" "[I", Cond.fieldLink RX0 32 "LateDoves$Cote" "way" "LLateDoves$Way;", Cond.fieldLink RX0 46 "LateDoves$Cote" "day" "I", Cond.fieldLink RX0 50 "LateDoves$Cote" "time" "I", Cond.fieldLink RX0 53 "LateDoves$Cote" "shifts" "I", Cond.fieldLink RX0 56 "LateDoves$Cote" "quarrels" "I", Cond.methodLink RX0 42 yX2_copyFrom, Cond.instanceMethod yX2_copyFrom, Cond.selects RX2 yX2_copyFrom yX2_copyFrom, Cond.initialized RX2, Cond.code yX2_copyFrom cX2_copyFrom 2 none]
def wsX3_mate_r3 : List Cond := [Cond.fieldLink RX2 9 "LateDoves$Way" "who" "[I", Cond.methodLink RX2 22 arraycopyName, Cond.fieldLink RX2 15 "LateDoves$Way" "where" "[I", Cond.fieldLink RX2 18 "LateDoves$Way" "size" "I", Cond.methodLink RX3 86 yX0_pair, Cond.instanceMethod yX0_pair, Cond.selects RX0 yX0_pair yX0_pair, Cond.code yX0_pair cX0_pair 3 none, Cond.methodLink RX3 90 yX0_pairs, Cond.instanceMethod yX0_pairs, Cond.selects RX0 yX0_pairs yX0_pairs, Cond.code yX0_pairs cX0_pairs 3 (some .int), Cond.methodLink RX0 86 yX0_exists]
def wsX3_mate : List Cond := .code yX3_mate cX3_mate 3 (some .int) :: ((wsX3_mate_r1 ++ (wsX3_mate_r2 ++ wsX3_mate_r3)) ++ wsX30 ++ wsX00 ++ wsX20 ++ (vx_atS RX3 67 "java/lang/IllegalStateException" ["java/lang/RuntimeException", "java/lang/Exception"]).filter goodWord ++ (vx_atS RX3 109 "java/lang/IndexOutOfBoundsException" ["java/lang/RuntimeException", "java/lang/Exception"]).filter goodWord)
def wsX3_shut_r1 : List Cond := [Cond.classLink RX3 63 "java/lang/IllegalStateException", Cond.initialized "java/lang/IllegalStateException", Cond.fieldLink RX3 10 "LateDoves" "now" "LLateDoves$Cote;", Cond.methodLink RX3 48 yX3_needHole, Cond.static yX3_needHole, Cond.initialized RX3, Cond.code yX3_needHole cX3_needHole 1 none, Cond.classLink RX3 105 "java/lang/IndexOutOfBoundsException", Cond.initialized "java/lang/IndexOutOfBoundsException", Cond.methodLink RX3 257 yX3_isHole, Cond.static yX3_isHole, Cond.code yX3_isHole cX3_isHole 1 (some .boolean), Cond.methodLink RX3 94 yX0_reasonNotToShut, Cond.instanceMethod yX0_reasonNotToShut, Cond.selects RX0 yX0_reasonNotToShut yX0_reasonNotToShut, Cond.initialized RX0, Cond.code yX0_reasonNotToShut cX0_reasonNotToShut 2 (some .int), Cond.fieldLink RX0 16 "LateDoves$Cote" "holes" "[[I", Cond.methodLink RX0 63 yX0_isOpen, Cond.instanceMethod yX0_isOpen, Cond.selects RX0 yX0_isOpen yX0_isOpen, Cond.code yX0_isOpen cX0_isOpen 2 (some .boolean), Cond.methodLink RX3 68 yX3_save, Cond.instanceMethod yX3_save]
def wsX3_shut_r2 : List Cond := [Cond.selects RX3 yX3_save yX3_save, Cond.code yX3_save cX3_save 3 none, Cond.fieldLink RX3 30 "LateDoves" "savedCount" "I", Cond.fieldLink RX3 26 "LateDoves" "saved" "[LLateDoves$Cote;", Cond.methodLink RX3 159 yX0_copyFrom, Cond.instanceMethod yX0_copyFrom, Cond.selects RX0 yX0_copyFrom yX0_copyFrom, Cond.code yX0_copyFrom cX0_copyFrom 3 none, Cond.fieldLink RX0 11 "LateDoves$Cote" "doves" "[[I", Cond.methodLink RX0 36 arraycopyName, Cond.native arraycopyName, Cond.static arraycopyName, Cond.initialized "java/lang/System", Cond.fieldLink RX0 19 "LateDoves$Cote" "settings" "[I", Cond.fieldLink RX0 23 "LateDoves$Cote" "atDawn" "[I", Cond.fieldLink RX0 26 "LateDoves$Cote" "stop" "[I", Cond.fieldLink RX0 32 "LateDoves$Cote" "way" "LLateDoves$Way;", Cond.fieldLink RX0 46 "LateDoves$Cote" "day" "I", Cond.fieldLink RX0 50 "LateDoves$Cote" "time" "I", Cond.fieldLink RX0 53 "LateDoves$Cote" "shifts" "I", Cond.fieldLink RX0 56 "LateDoves$Cote" "quarrels" "I", Cond.methodLink RX0 42 yX2_copyFrom, Cond.instanceMethod yX2_copyFrom, Cond.selects RX2 yX2_copyFrom yX2_copyFrom]
def wsX3_shut_r3 : List Cond := [Cond.initialized RX2, Cond.code yX2_copyFrom cX2_copyFrom 2 none, Cond.fieldLink RX2 9 "LateDoves$Way" "who" "[I", Cond.methodLink RX2 22 arraycopyName, Cond.fieldLink RX2 15 "LateDoves$Way" "where" "[I", Cond.fieldLink RX2 18 "LateDoves$Way" "size" "I", Cond.methodLink RX3 99 yX0_setOpen, Cond.instanceMethod yX0_setOpen, Cond.selects RX0 yX0_setOpen yX0_setOpen, Cond.code yX0_setOpen cX0_setOpen 3 none, Cond.methodLink RX3 102 yX0_openHoles, Cond.instanceMethod yX0_openHoles, Cond.selects RX0 yX0_openHoles yX0_openHoles, Cond.code yX0_openHoles cX0_openHoles 3 (some .int)]
def wsX3_shut : List Cond := .code yX3_shut cX3_shut 2 (some .int) :: ((wsX3_shut_r1 ++ (wsX3_shut_r2 ++ wsX3_shut_r3)) ++ wsX30 ++ wsX00 ++ wsX20 ++ (vx_atS RX3 67 "java/lang/IllegalStateException" ["java/lang/RuntimeException", "java/lang/Exception"]).filter goodWord ++ (vx_atS RX3 109 "java/lang/IndexOutOfBoundsException" ["java/lang/RuntimeException", "java/lang/Exception"]).filter goodWord)
def wsX3_open_r1 : List Cond := [Cond.fieldLink RX3 10 "LateDoves" "now" "LLateDoves$Cote;", Cond.methodLink RX3 48 yX3_needHole, Cond.static yX3_needHole, Cond.initialized RX3, Cond.code yX3_needHole cX3_needHole 1 none, Cond.classLink RX3 105 "java/lang/IndexOutOfBoundsException", Cond.initialized "java/lang/IndexOutOfBoundsException", Cond.methodLink RX3 257 yX3_isHole, Cond.static yX3_isHole, Cond.code yX3_isHole cX3_isHole 1 (some .boolean), Cond.methodLink RX3 68 yX3_save, Cond.instanceMethod yX3_save, Cond.selects RX3 yX3_save yX3_save, Cond.code yX3_save cX3_save 3 none, Cond.fieldLink RX3 30 "LateDoves" "savedCount" "I", Cond.fieldLink RX3 26 "LateDoves" "saved" "[LLateDoves$Cote;", Cond.methodLink RX3 159 yX0_copyFrom, Cond.instanceMethod yX0_copyFrom, Cond.selects RX0 yX0_copyFrom yX0_copyFrom, Cond.initialized RX0, Cond.code yX0_copyFrom cX0_copyFrom 3 none, Cond.fieldLink RX0 11 "LateDoves$Cote" "doves" "[[I", Cond.methodLink RX0 36 arraycopyName, Cond.native arraycopyName]
def wsX3_open_r2 : List Cond := [Cond.static arraycopyName, Cond.initialized "java/lang/System", Cond.fieldLink RX0 16 "LateDoves$Cote" "holes" "[[I", Cond.fieldLink RX0 19 "LateDoves$Cote" "settings" "[I", Cond.fieldLink RX0 23 "LateDoves$Cote" "atDawn" "[I", Cond.fieldLink RX0 26 "LateDoves$Cote" "stop" "[I", Cond.fieldLink RX0 32 "LateDoves$Cote" "way" "LLateDoves$Way;", Cond.fieldLink RX0 46 "LateDoves$Cote" "day" "I", Cond.fieldLink RX0 50 "LateDoves$Cote" "time" "I", Cond.fieldLink RX0 53 "LateDoves$Cote" "shifts" "I", Cond.fieldLink RX0 56 "LateDoves$Cote" "quarrels" "I", Cond.methodLink RX0 42 yX2_copyFrom, Cond.instanceMethod yX2_copyFrom, Cond.selects RX2 yX2_copyFrom yX2_copyFrom, Cond.initialized RX2, Cond.code yX2_copyFrom cX2_copyFrom 2 none, Cond.fieldLink RX2 9 "LateDoves$Way" "who" "[I", Cond.methodLink RX2 22 arraycopyName, Cond.fieldLink RX2 15 "LateDoves$Way" "where" "[I", Cond.fieldLink RX2 18 "LateDoves$Way" "size" "I", Cond.methodLink RX3 99 yX0_setOpen, Cond.instanceMethod yX0_setOpen, Cond.selects RX0 yX0_setOpen yX0_setOpen, Cond.code yX0_setOpen cX0_setOpen 3 none]
def wsX3_open_r3 : List Cond := [Cond.methodLink RX3 102 yX0_openHoles, Cond.instanceMethod yX0_openHoles, Cond.selects RX0 yX0_openHoles yX0_openHoles, Cond.code yX0_openHoles cX0_openHoles 3 (some .int), Cond.methodLink RX0 63 yX0_isOpen, Cond.instanceMethod yX0_isOpen, Cond.selects RX0 yX0_isOpen yX0_isOpen, Cond.code yX0_isOpen cX0_isOpen 2 (some .boolean)]
def wsX3_open : List Cond := .code yX3_open cX3_open 2 (some .int) :: ((wsX3_open_r1 ++ (wsX3_open_r2 ++ wsX3_open_r3)) ++ wsX30 ++ wsX00 ++ wsX20 ++ (vx_atS RX3 109 "java/lang/IndexOutOfBoundsException" ["java/lang/RuntimeException", "java/lang/Exception"]).filter goodWord)
def wsX3_set_r1 : List Cond := [Cond.classLink RX3 105 "java/lang/IndexOutOfBoundsException", Cond.initialized "java/lang/IndexOutOfBoundsException", Cond.classLink RX3 52 "java/lang/IllegalArgumentException", Cond.initialized "java/lang/IllegalArgumentException", Cond.fieldLink RX3 10 "LateDoves" "now" "LLateDoves$Cote;", Cond.methodLink RX3 68 yX3_save, Cond.instanceMethod yX3_save, Cond.selects RX3 yX3_save yX3_save, Cond.initialized RX3, Cond.code yX3_save cX3_save 3 none, Cond.fieldLink RX3 30 "LateDoves" "savedCount" "I", Cond.fieldLink RX3 26 "LateDoves" "saved" "[LLateDoves$Cote;", Cond.methodLink RX3 159 yX0_copyFrom, Cond.instanceMethod yX0_copyFrom, Cond.selects RX0 yX0_copyFrom yX0_copyFrom, Cond.initialized RX0, Cond.code yX0_copyFrom cX0_copyFrom 3 none, Cond.fieldLink RX0 11 "LateDoves$Cote" "doves" "[[I", Cond.methodLink RX0 36 arraycopyName, Cond.native arraycopyName, Cond.static arraycopyName, Cond.initialized "java/lang/System", Cond.fieldLink RX0 16 "LateDoves$Cote" "holes" "[[I", Cond.fieldLink RX0 19 "LateDoves$Cote" "settings" "[I"]
def wsX3_set_r2 : List Cond := [Cond.fieldLink RX0 23 "LateDoves$Cote" "atDawn" "[I", Cond.fieldLink RX0 26 "LateDoves$Cote" "stop" "[I", Cond.fieldLink RX0 32 "LateDoves$Cote" "way" "LLateDoves$Way;", Cond.fieldLink RX0 46 "LateDoves$Cote" "day" "I", Cond.fieldLink RX0 50 "LateDoves$Cote" "time" "I", Cond.fieldLink RX0 53 "LateDoves$Cote" "shifts" "I", Cond.fieldLink RX0 56 "LateDoves$Cote" "quarrels" "I", Cond.methodLink RX0 42 yX2_copyFrom, Cond.instanceMethod yX2_copyFrom, Cond.selects RX2 yX2_copyFrom yX2_copyFrom, Cond.initialized RX2, Cond.code yX2_copyFrom cX2_copyFrom 2 none, Cond.fieldLink RX2 9 "LateDoves$Way" "who" "[I", Cond.methodLink RX2 22 arraycopyName, Cond.fieldLink RX2 15 "LateDoves$Way" "where" "[I", Cond.fieldLink RX2 18 "LateDoves$Way" "size" "I"]
def wsX3_set : List Cond := .code yX3_set cX3_set 5 (some .int) :: ((wsX3_set_r1 ++ wsX3_set_r2) ++ wsX30 ++ wsX00 ++ wsX20 ++ (vx_atS RX3 109 "java/lang/IndexOutOfBoundsException" ["java/lang/RuntimeException", "java/lang/Exception"]).filter goodWord ++ (vx_atS RX3 56 "java/lang/IllegalArgumentException" ["java/lang/RuntimeException", "java/lang/Exception"]).filter goodWord)
def wsX3_needTime : List Cond := .code yX3_needTime cX3_needTime 1 none :: ([.classLink RX3 52 "java/lang/IllegalArgumentException", .initialized "java/lang/IllegalArgumentException"] ++ (vx_atS RX3 56 "java/lang/IllegalArgumentException" ["java/lang/RuntimeException", "java/lang/Exception"]).filter goodWord)
def wsX3_home_r1 : List Cond := [Cond.classLink RX3 63 "java/lang/IllegalStateException", Cond.initialized "java/lang/IllegalStateException", Cond.fieldLink RX3 10 "LateDoves" "now" "LLateDoves$Cote;", Cond.methodLink RX3 75 yX3_needDove, Cond.instanceMethod yX3_needDove, Cond.selects RX3 yX3_needDove yX3_needDove, Cond.initialized RX3, Cond.code yX3_needDove cX3_needDove 2 none, Cond.classLink RX3 105 "java/lang/IndexOutOfBoundsException", Cond.initialized "java/lang/IndexOutOfBoundsException", Cond.methodLink RX3 232 yX0_exists, Cond.instanceMethod yX0_exists, Cond.selects RX0 yX0_exists yX0_exists, Cond.initialized RX0, Cond.code yX0_exists cX0_exists 2 (some .boolean), Cond.fieldLink RX0 11 "LateDoves$Cote" "doves" "[[I", Cond.methodLink RX3 115 yX3_needTime, Cond.static yX3_needTime, Cond.code yX3_needTime cX3_needTime 1 none, Cond.classLink RX3 52 "java/lang/IllegalArgumentException", Cond.initialized "java/lang/IllegalArgumentException", Cond.methodLink RX3 118 yX0_reasonNotHome, Cond.instanceMethod yX0_reasonNotHome, Cond.selects RX0 yX0_reasonNotHome yX0_reasonNotHome]
def wsX3_home_r2 : List Cond := [Cond.code yX0_reasonNotHome cX0_reasonNotHome 3 (some .int), Cond.fieldLink RX0 50 "LateDoves$Cote" "time" "I", Cond.methodLink RX3 68 yX3_save, Cond.instanceMethod yX3_save, Cond.selects RX3 yX3_save yX3_save, Cond.code yX3_save cX3_save 3 none, Cond.fieldLink RX3 30 "LateDoves" "savedCount" "I", Cond.fieldLink RX3 26 "LateDoves" "saved" "[LLateDoves$Cote;", Cond.methodLink RX3 159 yX0_copyFrom, Cond.instanceMethod yX0_copyFrom, Cond.selects RX0 yX0_copyFrom yX0_copyFrom, Cond.code yX0_copyFrom cX0_copyFrom 3 none, Cond.methodLink RX0 36 arraycopyName, Cond.native arraycopyName, Cond.static arraycopyName, Cond.initialized "java/lang/System", Cond.fieldLink RX0 16 "LateDoves$Cote" "holes" "[[I", Cond.fieldLink RX0 19 "LateDoves$Cote" "settings" "[I", Cond.fieldLink RX0 23 "LateDoves$Cote" "atDawn" "[I", Cond.fieldLink RX0 26 "LateDoves$Cote" "stop" "[I", Cond.fieldLink RX0 32 "LateDoves$Cote" "way" "LLateDoves$Way;", Cond.fieldLink RX0 46 "LateDoves$Cote" "day" "I", Cond.fieldLink RX0 53 "LateDoves$Cote" "shifts" "I", Cond.fieldLink RX0 56 "LateDoves$Cote" "quarrels" "I"]
def wsX3_home_r3 : List Cond := [Cond.methodLink RX0 42 yX2_copyFrom, Cond.instanceMethod yX2_copyFrom, Cond.selects RX2 yX2_copyFrom yX2_copyFrom, Cond.initialized RX2, Cond.code yX2_copyFrom cX2_copyFrom 2 none, Cond.fieldLink RX2 9 "LateDoves$Way" "who" "[I", Cond.methodLink RX2 22 arraycopyName, Cond.fieldLink RX2 15 "LateDoves$Way" "where" "[I", Cond.fieldLink RX2 18 "LateDoves$Way" "size" "I", Cond.methodLink RX3 123 yX0_comeHome, Cond.instanceMethod yX0_comeHome, Cond.selects RX0 yX0_comeHome yX0_comeHome, Cond.code yX0_comeHome cX0_comeHome 8 (some .int), Cond.methodLink RX0 63 yX0_isOpen, Cond.instanceMethod yX0_isOpen, Cond.selects RX0 yX0_isOpen yX0_isOpen, Cond.code yX0_isOpen cX0_isOpen 2 (some .boolean), Cond.static yX3_isHole, Cond.code yX3_isHole cX3_isHole 1 (some .boolean), Cond.methodLink RX0 92 yX0_enterOwnHole, Cond.instanceMethod yX0_enterOwnHole, Cond.selects RX0 yX0_enterOwnHole yX0_enterOwnHole, Cond.code yX0_enterOwnHole cX0_enterOwnHole 5 (some .int), Cond.methodLink RX0 86 yX0_exists]
def wsX3_home_r4 : List Cond := [Cond.methodLink RX0 99 yX0_shiftFrom, Cond.instanceMethod yX0_shiftFrom, Cond.selects RX0 yX0_shiftFrom yX0_shiftFrom, Cond.code yX0_shiftFrom cX0_shiftFrom 4 (some .int), Cond.methodLink RX0 103 yX0_sit, Cond.instanceMethod yX0_sit, Cond.selects RX0 yX0_sit yX0_sit, Cond.code yX0_sit cX0_sit 3 none, Cond.methodLink RX0 113 yX2_note, Cond.instanceMethod yX2_note, Cond.selects RX2 yX2_note yX2_note, Cond.code yX2_note cX2_note 3 none, Cond.methodLink RX0 96 yX0_settle, Cond.instanceMethod yX0_settle, Cond.selects RX0 yX0_settle yX0_settle, Cond.code yX0_settle cX0_settle 6 (some .int), Cond.methodLink RX0 107 yX0_firstFreeFor, Cond.instanceMethod yX0_firstFreeFor, Cond.selects RX0 yX0_firstFreeFor yX0_firstFreeFor, Cond.code yX0_firstFreeFor cX0_firstFreeFor 6 (some .int), Cond.methodLink RX0 110 yX0_isFree, Cond.instanceMethod yX0_isFree, Cond.selects RX0 yX0_isFree yX0_isFree, Cond.code yX0_isFree cX0_isFree 2 (some .boolean)]
def wsX3_home : List Cond := .code yX3_home cX3_home 3 (some .int) :: ((wsX3_home_r1 ++ (wsX3_home_r2 ++ (wsX3_home_r3 ++ wsX3_home_r4))) ++ wsX30 ++ wsX00 ++ wsX20 ++ (vx_atS RX3 67 "java/lang/IllegalStateException" ["java/lang/RuntimeException", "java/lang/Exception"]).filter goodWord ++ (vx_atS RX3 109 "java/lang/IndexOutOfBoundsException" ["java/lang/RuntimeException", "java/lang/Exception"]).filter goodWord ++ (vx_atS RX3 56 "java/lang/IllegalArgumentException" ["java/lang/RuntimeException", "java/lang/Exception"]).filter goodWord)
def wsX3_dawn_r1 : List Cond := [Cond.fieldLink RX3 10 "LateDoves" "now" "LLateDoves$Cote;", Cond.methodLink RX3 68 yX3_save, Cond.instanceMethod yX3_save, Cond.selects RX3 yX3_save yX3_save, Cond.initialized RX3, Cond.code yX3_save cX3_save 3 none, Cond.fieldLink RX3 30 "LateDoves" "savedCount" "I", Cond.fieldLink RX3 26 "LateDoves" "saved" "[LLateDoves$Cote;", Cond.methodLink RX3 159 yX0_copyFrom, Cond.instanceMethod yX0_copyFrom, Cond.selects RX0 yX0_copyFrom yX0_copyFrom, Cond.initialized RX0, Cond.code yX0_copyFrom cX0_copyFrom 3 none, Cond.fieldLink RX0 11 "LateDoves$Cote" "doves" "[[I", Cond.methodLink RX0 36 arraycopyName, Cond.native arraycopyName, Cond.static arraycopyName, Cond.initialized "java/lang/System", Cond.fieldLink RX0 16 "LateDoves$Cote" "holes" "[[I", Cond.fieldLink RX0 19 "LateDoves$Cote" "settings" "[I", Cond.fieldLink RX0 23 "LateDoves$Cote" "atDawn" "[I", Cond.fieldLink RX0 26 "LateDoves$Cote" "stop" "[I", Cond.fieldLink RX0 32 "LateDoves$Cote" "way" "LLateDoves$Way;", Cond.fieldLink RX0 46 "LateDoves$Cote" "day" "I"]
def wsX3_dawn_r2 : List Cond := [Cond.fieldLink RX0 50 "LateDoves$Cote" "time" "I", Cond.fieldLink RX0 53 "LateDoves$Cote" "shifts" "I", Cond.fieldLink RX0 56 "LateDoves$Cote" "quarrels" "I", Cond.methodLink RX0 42 yX2_copyFrom, Cond.instanceMethod yX2_copyFrom, Cond.selects RX2 yX2_copyFrom yX2_copyFrom, Cond.initialized RX2, Cond.code yX2_copyFrom cX2_copyFrom 2 none, Cond.fieldLink RX2 9 "LateDoves$Way" "who" "[I", Cond.methodLink RX2 22 arraycopyName, Cond.fieldLink RX2 15 "LateDoves$Way" "where" "[I", Cond.fieldLink RX2 18 "LateDoves$Way" "size" "I", Cond.methodLink RX3 126 yX0_endNight, Cond.instanceMethod yX0_endNight, Cond.selects RX0 yX0_endNight yX0_endNight, Cond.code yX0_endNight cX0_endNight 2 (some .int), Cond.methodLink RX0 86 yX0_exists, Cond.instanceMethod yX0_exists, Cond.selects RX0 yX0_exists yX0_exists, Cond.code yX0_exists cX0_exists 2 (some .boolean), Cond.methodLink RX0 116 yX0_countAtDawn, Cond.instanceMethod yX0_countAtDawn, Cond.selects RX0 yX0_countAtDawn yX0_countAtDawn, Cond.code yX0_countAtDawn cX0_countAtDawn 3 none]
def wsX3_dawn : List Cond := .code yX3_dawn cX3_dawn 1 (some .int) :: ((wsX3_dawn_r1 ++ wsX3_dawn_r2) ++ wsX30 ++ wsX00 ++ wsX20)
def wsX3_append : List Cond := .code yX3_append cX3_append 2 (some .int) :: ([.classLink RX3 52 "java/lang/IllegalArgumentException", .initialized "java/lang/IllegalArgumentException", .classLink RX3 63 "java/lang/IllegalStateException", .initialized "java/lang/IllegalStateException", .fieldLink RX3 38 "LateDoves" "length" "I", .fieldLink RX3 34 "LateDoves" "buffer" "[I"] ++ wsX30 ++ (vx_atS RX3 56 "java/lang/IllegalArgumentException" ["java/lang/RuntimeException", "java/lang/Exception"]).filter goodWord ++ (vx_atS RX3 67 "java/lang/IllegalStateException" ["java/lang/RuntimeException", "java/lang/Exception"]).filter goodWord)
def wsX3_clearBuffer : List Cond := .code yX3_clearBuffer cX3_clearBuffer 2 (some .int) :: ([.fieldLink RX3 38 "LateDoves" "length" "I"] ++ wsX30)
def wsX3_firstError_r1 : List Cond := [Cond.fieldLink RX3 44 "LateDoves" "reader" "LLateDoves$PartReader;", Cond.fieldLink RX3 38 "LateDoves" "length" "I", Cond.fieldLink RX3 34 "LateDoves" "buffer" "[I", Cond.methodLink RX3 133 yX1_begin, Cond.instanceMethod yX1_begin, Cond.selects RX1 yX1_begin yX1_begin, Cond.initialized RX1, Cond.code yX1_begin cX1_begin 1 none, Cond.fieldLink RX1 11 "LateDoves$PartReader" "stage" "I", Cond.fieldLink RX1 15 "LateDoves$PartReader" "kind" "I", Cond.fieldLink RX1 18 "LateDoves$PartReader" "first" "I", Cond.fieldLink RX1 21 "LateDoves$PartReader" "second" "I", Cond.methodLink RX3 136 yX1_take, Cond.instanceMethod yX1_take, Cond.selects RX1 yX1_take yX1_take, Cond.code yX1_take cX1_take 2 (some .boolean), Cond.methodLink RX1 24 yX1_takeLetter, Cond.instanceMethod yX1_takeLetter, Cond.selects RX1 yX1_takeLetter yX1_takeLetter, Cond.code yX1_takeLetter cX1_takeLetter 2 (some .boolean), Cond.methodLink RX1 28 yX1_takeEnd, Cond.instanceMethod yX1_takeEnd, Cond.selects RX1 yX1_takeEnd yX1_takeEnd, Cond.code yX1_takeEnd cX1_takeEnd 1 (some .boolean)]
def wsX3_firstError_r2 : List Cond := [Cond.methodLink RX1 42 yX1_isComplete, Cond.instanceMethod yX1_isComplete, Cond.selects RX1 yX1_isComplete yX1_isComplete, Cond.code yX1_isComplete cX1_isComplete 1 (some .boolean), Cond.methodLink RX1 38 yX1_signBehindFirst, Cond.instanceMethod yX1_signBehindFirst, Cond.selects RX1 yX1_signBehindFirst yX1_signBehindFirst, Cond.code yX1_signBehindFirst cX1_signBehindFirst 1 (some .int), Cond.methodLink RX1 45 yX1_begin, Cond.methodLink RX1 32 yX1_takeDigit, Cond.instanceMethod yX1_takeDigit, Cond.selects RX1 yX1_takeDigit yX1_takeDigit, Cond.code yX1_takeDigit cX1_takeDigit 3 (some .boolean), Cond.methodLink RX1 48 yX1_grown, Cond.static yX1_grown, Cond.code yX1_grown cX1_grown 2 (some .int), Cond.methodLink RX1 52 yX1_highestFirst, Cond.instanceMethod yX1_highestFirst, Cond.selects RX1 yX1_highestFirst yX1_highestFirst, Cond.code yX1_highestFirst cX1_highestFirst 1 (some .int), Cond.methodLink RX1 55 yX1_lowestSecond, Cond.instanceMethod yX1_lowestSecond, Cond.selects RX1 yX1_lowestSecond yX1_lowestSecond, Cond.code yX1_lowestSecond cX1_lowestSecond 1 (some .int)]
def wsX3_firstError_r3 : List Cond := [Cond.methodLink RX1 58 yX1_highestSecond, Cond.instanceMethod yX1_highestSecond, Cond.selects RX1 yX1_highestSecond yX1_highestSecond, Cond.code yX1_highestSecond cX1_highestSecond 1 (some .int), Cond.methodLink RX1 35 yX1_takeSign, Cond.instanceMethod yX1_takeSign, Cond.selects RX1 yX1_takeSign yX1_takeSign, Cond.code yX1_takeSign cX1_takeSign 2 (some .boolean)]
def wsX3_firstError : List Cond := .code yX3_firstError cX3_firstError 2 (some .int) :: ((wsX3_firstError_r1 ++ (wsX3_firstError_r2 ++ wsX3_firstError_r3)) ++ wsX30 ++ wsX10)
def wsX3_playHome_r1 : List Cond := [Cond.fieldLink RX3 10 "LateDoves" "now" "LLateDoves$Cote;", Cond.methodLink RX3 232 yX0_exists, Cond.instanceMethod yX0_exists, Cond.selects RX0 yX0_exists yX0_exists, Cond.initialized RX0, Cond.code yX0_exists cX0_exists 2 (some .boolean), Cond.fieldLink RX0 11 "LateDoves$Cote" "doves" "[[I", Cond.methodLink RX3 118 yX0_reasonNotHome, Cond.instanceMethod yX0_reasonNotHome, Cond.selects RX0 yX0_reasonNotHome yX0_reasonNotHome, Cond.code yX0_reasonNotHome cX0_reasonNotHome 3 (some .int), Cond.fieldLink RX0 50 "LateDoves$Cote" "time" "I", Cond.methodLink RX3 123 yX0_comeHome, Cond.instanceMethod yX0_comeHome, Cond.selects RX0 yX0_comeHome yX0_comeHome, Cond.code yX0_comeHome cX0_comeHome 8 (some .int), Cond.fieldLink RX0 32 "LateDoves$Cote" "way" "LLateDoves$Way;", Cond.fieldLink RX0 53 "LateDoves$Cote" "shifts" "I", Cond.fieldLink RX0 19 "LateDoves$Cote" "settings" "[I", Cond.methodLink RX0 63 yX0_isOpen, Cond.instanceMethod yX0_isOpen, Cond.selects RX0 yX0_isOpen yX0_isOpen, Cond.code yX0_isOpen cX0_isOpen 2 (some .boolean), Cond.fieldLink RX0 16 "LateDoves$Cote" "holes" "[[I"]
def wsX3_playHome_r2 : List Cond := [Cond.static yX3_isHole, Cond.initialized RX3, Cond.code yX3_isHole cX3_isHole 1 (some .boolean), Cond.methodLink RX0 92 yX0_enterOwnHole, Cond.instanceMethod yX0_enterOwnHole, Cond.selects RX0 yX0_enterOwnHole yX0_enterOwnHole, Cond.code yX0_enterOwnHole cX0_enterOwnHole 5 (some .int), Cond.methodLink RX0 86 yX0_exists, Cond.methodLink RX0 99 yX0_shiftFrom, Cond.instanceMethod yX0_shiftFrom, Cond.selects RX0 yX0_shiftFrom yX0_shiftFrom, Cond.code yX0_shiftFrom cX0_shiftFrom 4 (some .int), Cond.fieldLink RX0 56 "LateDoves$Cote" "quarrels" "I", Cond.methodLink RX0 103 yX0_sit, Cond.instanceMethod yX0_sit, Cond.selects RX0 yX0_sit yX0_sit, Cond.code yX0_sit cX0_sit 3 none, Cond.methodLink RX0 113 yX2_note, Cond.instanceMethod yX2_note, Cond.selects RX2 yX2_note yX2_note, Cond.initialized RX2, Cond.code yX2_note cX2_note 3 none, Cond.fieldLink RX2 18 "LateDoves$Way" "size" "I", Cond.fieldLink RX2 9 "LateDoves$Way" "who" "[I"]
def wsX3_playHome_r3 : List Cond := [Cond.fieldLink RX2 15 "LateDoves$Way" "where" "[I", Cond.methodLink RX0 96 yX0_settle, Cond.instanceMethod yX0_settle, Cond.selects RX0 yX0_settle yX0_settle, Cond.code yX0_settle cX0_settle 6 (some .int), Cond.methodLink RX0 107 yX0_firstFreeFor, Cond.instanceMethod yX0_firstFreeFor, Cond.selects RX0 yX0_firstFreeFor yX0_firstFreeFor, Cond.code yX0_firstFreeFor cX0_firstFreeFor 6 (some .int), Cond.methodLink RX0 110 yX0_isFree, Cond.instanceMethod yX0_isFree, Cond.selects RX0 yX0_isFree yX0_isFree, Cond.code yX0_isFree cX0_isFree 2 (some .boolean)]
def wsX3_playHome : List Cond := .code yX3_playHome cX3_playHome 4 (some .int) :: ((wsX3_playHome_r1 ++ (wsX3_playHome_r2 ++ wsX3_playHome_r3)) ++ wsX30 ++ wsX00 ++ wsX20)
def wsX3_playBuy_r1 : List Cond := [Cond.fieldLink RX3 10 "LateDoves" "now" "LLateDoves$Cote;", Cond.methodLink RX3 59 yX0_reasonNotToBuy, Cond.instanceMethod yX0_reasonNotToBuy, Cond.selects RX0 yX0_reasonNotToBuy yX0_reasonNotToBuy, Cond.initialized RX0, Cond.code yX0_reasonNotToBuy cX0_reasonNotToBuy 2 (some .int), Cond.fieldLink RX0 16 "LateDoves$Cote" "holes" "[[I", Cond.methodLink RX0 66 yX0_doveCount, Cond.instanceMethod yX0_doveCount, Cond.selects RX0 yX0_doveCount yX0_doveCount, Cond.code yX0_doveCount cX0_doveCount 3 (some .int), Cond.methodLink RX0 86 yX0_exists, Cond.instanceMethod yX0_exists, Cond.selects RX0 yX0_exists yX0_exists, Cond.code yX0_exists cX0_exists 2 (some .boolean), Cond.fieldLink RX0 11 "LateDoves$Cote" "doves" "[[I", Cond.methodLink RX0 63 yX0_isOpen, Cond.instanceMethod yX0_isOpen, Cond.selects RX0 yX0_isOpen yX0_isOpen, Cond.code yX0_isOpen cX0_isOpen 2 (some .boolean), Cond.static yX3_isHole, Cond.initialized RX3, Cond.code yX3_isHole cX3_isHole 1 (some .boolean), Cond.methodLink RX3 71 yX0_addDove]
def wsX3_playBuy_r2 : List Cond := [Cond.instanceMethod yX0_addDove, Cond.selects RX0 yX0_addDove yX0_addDove, Cond.code yX0_addDove cX0_addDove 4 (some .int)]
def wsX3_playBuy : List Cond := .code yX3_playBuy cX3_playBuy 4 (some .int) :: ((wsX3_playBuy_r1 ++ wsX3_playBuy_r2) ++ wsX30 ++ wsX00)
def wsX3_playMate : List Cond := .code yX3_playMate cX3_playMate 4 (some .int) :: ([.fieldLink RX3 10 "LateDoves" "now" "LLateDoves$Cote;", .methodLink RX3 232 yX0_exists, .instanceMethod yX0_exists, .selects RX0 yX0_exists yX0_exists, .initialized RX0, .code yX0_exists cX0_exists 2 (some .boolean), .fieldLink RX0 11 "LateDoves$Cote" "doves" "[[I", .methodLink RX3 81 yX0_reasonNotToPair, .instanceMethod yX0_reasonNotToPair, .selects RX0 yX0_reasonNotToPair yX0_reasonNotToPair, .code yX0_reasonNotToPair cX0_reasonNotToPair 4 (some .int), .methodLink RX3 86 yX0_pair, .instanceMethod yX0_pair, .selects RX0 yX0_pair yX0_pair, .code yX0_pair cX0_pair 3 none] ++ wsX30 ++ wsX00)
def wsX3_playShut : List Cond := .code yX3_playShut cX3_playShut 3 (some .int) :: ([.fieldLink RX3 10 "LateDoves" "now" "LLateDoves$Cote;", .methodLink RX3 94 yX0_reasonNotToShut, .instanceMethod yX0_reasonNotToShut, .selects RX0 yX0_reasonNotToShut yX0_reasonNotToShut, .initialized RX0, .code yX0_reasonNotToShut cX0_reasonNotToShut 2 (some .int), .fieldLink RX0 16 "LateDoves$Cote" "holes" "[[I", .methodLink RX0 63 yX0_isOpen, .instanceMethod yX0_isOpen, .selects RX0 yX0_isOpen yX0_isOpen, .code yX0_isOpen cX0_isOpen 2 (some .boolean), .static yX3_isHole, .initialized RX3, .code yX3_isHole cX3_isHole 1 (some .boolean), .methodLink RX3 99 yX0_setOpen, .instanceMethod yX0_setOpen, .selects RX0 yX0_setOpen yX0_setOpen, .code yX0_setOpen cX0_setOpen 3 none] ++ wsX30 ++ wsX00)
def wsX3_playPart_r1 : List Cond := [Cond.fieldLink RX3 44 "LateDoves" "reader" "LLateDoves$PartReader;", Cond.fieldLink RX3 10 "LateDoves" "now" "LLateDoves$Cote;", Cond.methodLink RX3 281 yX3_playHome, Cond.instanceMethod yX3_playHome, Cond.selects RX3 yX3_playHome yX3_playHome, Cond.initialized RX3, Cond.code yX3_playHome cX3_playHome 4 (some .int), Cond.methodLink RX3 232 yX0_exists, Cond.instanceMethod yX0_exists, Cond.selects RX0 yX0_exists yX0_exists, Cond.initialized RX0, Cond.code yX0_exists cX0_exists 2 (some .boolean), Cond.fieldLink RX0 11 "LateDoves$Cote" "doves" "[[I", Cond.methodLink RX3 118 yX0_reasonNotHome, Cond.instanceMethod yX0_reasonNotHome, Cond.selects RX0 yX0_reasonNotHome yX0_reasonNotHome, Cond.code yX0_reasonNotHome cX0_reasonNotHome 3 (some .int), Cond.fieldLink RX0 50 "LateDoves$Cote" "time" "I", Cond.methodLink RX3 123 yX0_comeHome, Cond.instanceMethod yX0_comeHome, Cond.selects RX0 yX0_comeHome yX0_comeHome, Cond.code yX0_comeHome cX0_comeHome 8 (some .int), Cond.fieldLink RX0 32 "LateDoves$Cote" "way" "LLateDoves$Way;", Cond.fieldLink RX0 53 "LateDoves$Cote" "shifts" "I"]
def wsX3_playPart_r2 : List Cond := [Cond.fieldLink RX0 19 "LateDoves$Cote" "settings" "[I", Cond.methodLink RX0 63 yX0_isOpen, Cond.instanceMethod yX0_isOpen, Cond.selects RX0 yX0_isOpen yX0_isOpen, Cond.code yX0_isOpen cX0_isOpen 2 (some .boolean), Cond.fieldLink RX0 16 "LateDoves$Cote" "holes" "[[I", Cond.static yX3_isHole, Cond.code yX3_isHole cX3_isHole 1 (some .boolean), Cond.methodLink RX0 92 yX0_enterOwnHole, Cond.instanceMethod yX0_enterOwnHole, Cond.selects RX0 yX0_enterOwnHole yX0_enterOwnHole, Cond.code yX0_enterOwnHole cX0_enterOwnHole 5 (some .int), Cond.methodLink RX0 86 yX0_exists, Cond.methodLink RX0 99 yX0_shiftFrom, Cond.instanceMethod yX0_shiftFrom, Cond.selects RX0 yX0_shiftFrom yX0_shiftFrom, Cond.code yX0_shiftFrom cX0_shiftFrom 4 (some .int), Cond.fieldLink RX0 56 "LateDoves$Cote" "quarrels" "I", Cond.methodLink RX0 103 yX0_sit, Cond.instanceMethod yX0_sit, Cond.selects RX0 yX0_sit yX0_sit, Cond.code yX0_sit cX0_sit 3 none, Cond.methodLink RX0 113 yX2_note, Cond.instanceMethod yX2_note]
def wsX3_playPart_r3 : List Cond := [Cond.selects RX2 yX2_note yX2_note, Cond.initialized RX2, Cond.code yX2_note cX2_note 3 none, Cond.fieldLink RX2 18 "LateDoves$Way" "size" "I", Cond.fieldLink RX2 9 "LateDoves$Way" "who" "[I", Cond.fieldLink RX2 15 "LateDoves$Way" "where" "[I", Cond.methodLink RX0 96 yX0_settle, Cond.instanceMethod yX0_settle, Cond.selects RX0 yX0_settle yX0_settle, Cond.code yX0_settle cX0_settle 6 (some .int), Cond.methodLink RX0 107 yX0_firstFreeFor, Cond.instanceMethod yX0_firstFreeFor, Cond.selects RX0 yX0_firstFreeFor yX0_firstFreeFor, Cond.code yX0_firstFreeFor cX0_firstFreeFor 6 (some .int), Cond.methodLink RX0 110 yX0_isFree, Cond.instanceMethod yX0_isFree, Cond.selects RX0 yX0_isFree yX0_isFree, Cond.code yX0_isFree cX0_isFree 2 (some .boolean), Cond.methodLink RX3 284 yX3_playBuy, Cond.instanceMethod yX3_playBuy, Cond.selects RX3 yX3_playBuy yX3_playBuy, Cond.code yX3_playBuy cX3_playBuy 4 (some .int), Cond.methodLink RX3 59 yX0_reasonNotToBuy, Cond.instanceMethod yX0_reasonNotToBuy]
def wsX3_playPart_r4 : List Cond := [Cond.selects RX0 yX0_reasonNotToBuy yX0_reasonNotToBuy, Cond.code yX0_reasonNotToBuy cX0_reasonNotToBuy 2 (some .int), Cond.methodLink RX0 66 yX0_doveCount, Cond.instanceMethod yX0_doveCount, Cond.selects RX0 yX0_doveCount yX0_doveCount, Cond.code yX0_doveCount cX0_doveCount 3 (some .int), Cond.methodLink RX3 71 yX0_addDove, Cond.instanceMethod yX0_addDove, Cond.selects RX0 yX0_addDove yX0_addDove, Cond.code yX0_addDove cX0_addDove 4 (some .int), Cond.methodLink RX3 287 yX3_playMate, Cond.instanceMethod yX3_playMate, Cond.selects RX3 yX3_playMate yX3_playMate, Cond.code yX3_playMate cX3_playMate 4 (some .int), Cond.methodLink RX3 81 yX0_reasonNotToPair, Cond.instanceMethod yX0_reasonNotToPair, Cond.selects RX0 yX0_reasonNotToPair yX0_reasonNotToPair, Cond.code yX0_reasonNotToPair cX0_reasonNotToPair 4 (some .int), Cond.methodLink RX3 86 yX0_pair, Cond.instanceMethod yX0_pair, Cond.selects RX0 yX0_pair yX0_pair, Cond.code yX0_pair cX0_pair 3 none, Cond.methodLink RX3 290 yX3_playShut, Cond.instanceMethod yX3_playShut]
def wsX3_playPart_r5 : List Cond := [Cond.selects RX3 yX3_playShut yX3_playShut, Cond.code yX3_playShut cX3_playShut 3 (some .int), Cond.methodLink RX3 94 yX0_reasonNotToShut, Cond.instanceMethod yX0_reasonNotToShut, Cond.selects RX0 yX0_reasonNotToShut yX0_reasonNotToShut, Cond.code yX0_reasonNotToShut cX0_reasonNotToShut 2 (some .int), Cond.methodLink RX3 99 yX0_setOpen, Cond.instanceMethod yX0_setOpen, Cond.selects RX0 yX0_setOpen yX0_setOpen, Cond.code yX0_setOpen cX0_setOpen 3 none, Cond.methodLink RX3 257 yX3_isHole, Cond.methodLink RX3 126 yX0_endNight, Cond.instanceMethod yX0_endNight, Cond.selects RX0 yX0_endNight yX0_endNight, Cond.code yX0_endNight cX0_endNight 2 (some .int), Cond.fieldLink RX0 23 "LateDoves$Cote" "atDawn" "[I", Cond.fieldLink RX0 46 "LateDoves$Cote" "day" "I", Cond.methodLink RX0 116 yX0_countAtDawn, Cond.instanceMethod yX0_countAtDawn, Cond.selects RX0 yX0_countAtDawn yX0_countAtDawn, Cond.code yX0_countAtDawn cX0_countAtDawn 3 none]
def wsX3_playPart : List Cond := .code yX3_playPart cX3_playPart 3 (some .int) :: ((wsX3_playPart_r1 ++ (wsX3_playPart_r2 ++ (wsX3_playPart_r3 ++ (wsX3_playPart_r4 ++ wsX3_playPart_r5)))) ++ wsX30 ++ wsX10 ++ wsX00 ++ wsX20)
def wsX3_playEvening_r1 : List Cond := [Cond.fieldLink RX3 10 "LateDoves" "now" "LLateDoves$Cote;", Cond.fieldLink RX3 44 "LateDoves" "reader" "LLateDoves$PartReader;", Cond.fieldLink RX3 38 "LateDoves" "length" "I", Cond.fieldLink RX3 34 "LateDoves" "buffer" "[I", Cond.methodLink RX3 266 yX0_noteStop, Cond.instanceMethod yX0_noteStop, Cond.selects RX0 yX0_noteStop yX0_noteStop, Cond.initialized RX0, Cond.code yX0_noteStop cX0_noteStop 3 none, Cond.fieldLink RX0 26 "LateDoves$Cote" "stop" "[I", Cond.methodLink RX3 133 yX1_begin, Cond.instanceMethod yX1_begin, Cond.selects RX1 yX1_begin yX1_begin, Cond.initialized RX1, Cond.code yX1_begin cX1_begin 1 none, Cond.fieldLink RX1 11 "LateDoves$PartReader" "stage" "I", Cond.fieldLink RX1 15 "LateDoves$PartReader" "kind" "I", Cond.fieldLink RX1 18 "LateDoves$PartReader" "first" "I", Cond.fieldLink RX1 21 "LateDoves$PartReader" "second" "I", Cond.methodLink RX3 269 yX3_playPart, Cond.instanceMethod yX3_playPart, Cond.selects RX3 yX3_playPart yX3_playPart, Cond.initialized RX3, Cond.code yX3_playPart cX3_playPart 3 (some .int)]
def wsX3_playEvening_r2 : List Cond := [Cond.methodLink RX3 281 yX3_playHome, Cond.instanceMethod yX3_playHome, Cond.selects RX3 yX3_playHome yX3_playHome, Cond.code yX3_playHome cX3_playHome 4 (some .int), Cond.methodLink RX3 232 yX0_exists, Cond.instanceMethod yX0_exists, Cond.selects RX0 yX0_exists yX0_exists, Cond.code yX0_exists cX0_exists 2 (some .boolean), Cond.fieldLink RX0 11 "LateDoves$Cote" "doves" "[[I", Cond.methodLink RX3 118 yX0_reasonNotHome, Cond.instanceMethod yX0_reasonNotHome, Cond.selects RX0 yX0_reasonNotHome yX0_reasonNotHome, Cond.code yX0_reasonNotHome cX0_reasonNotHome 3 (some .int), Cond.fieldLink RX0 50 "LateDoves$Cote" "time" "I", Cond.methodLink RX3 123 yX0_comeHome, Cond.instanceMethod yX0_comeHome, Cond.selects RX0 yX0_comeHome yX0_comeHome, Cond.code yX0_comeHome cX0_comeHome 8 (some .int), Cond.fieldLink RX0 32 "LateDoves$Cote" "way" "LLateDoves$Way;", Cond.fieldLink RX0 53 "LateDoves$Cote" "shifts" "I", Cond.fieldLink RX0 19 "LateDoves$Cote" "settings" "[I", Cond.methodLink RX0 63 yX0_isOpen, Cond.instanceMethod yX0_isOpen, Cond.selects RX0 yX0_isOpen yX0_isOpen]
def wsX3_playEvening_r3 : List Cond := [Cond.code yX0_isOpen cX0_isOpen 2 (some .boolean), Cond.fieldLink RX0 16 "LateDoves$Cote" "holes" "[[I", Cond.static yX3_isHole, Cond.code yX3_isHole cX3_isHole 1 (some .boolean), Cond.methodLink RX0 92 yX0_enterOwnHole, Cond.instanceMethod yX0_enterOwnHole, Cond.selects RX0 yX0_enterOwnHole yX0_enterOwnHole, Cond.code yX0_enterOwnHole cX0_enterOwnHole 5 (some .int), Cond.methodLink RX0 86 yX0_exists, Cond.methodLink RX0 99 yX0_shiftFrom, Cond.instanceMethod yX0_shiftFrom, Cond.selects RX0 yX0_shiftFrom yX0_shiftFrom, Cond.code yX0_shiftFrom cX0_shiftFrom 4 (some .int), Cond.fieldLink RX0 56 "LateDoves$Cote" "quarrels" "I", Cond.methodLink RX0 103 yX0_sit, Cond.instanceMethod yX0_sit, Cond.selects RX0 yX0_sit yX0_sit, Cond.code yX0_sit cX0_sit 3 none, Cond.methodLink RX0 113 yX2_note, Cond.instanceMethod yX2_note, Cond.selects RX2 yX2_note yX2_note, Cond.initialized RX2, Cond.code yX2_note cX2_note 3 none, Cond.fieldLink RX2 18 "LateDoves$Way" "size" "I"]
def wsX3_playEvening_r4 : List Cond := [Cond.fieldLink RX2 9 "LateDoves$Way" "who" "[I", Cond.fieldLink RX2 15 "LateDoves$Way" "where" "[I", Cond.methodLink RX0 96 yX0_settle, Cond.instanceMethod yX0_settle, Cond.selects RX0 yX0_settle yX0_settle, Cond.code yX0_settle cX0_settle 6 (some .int), Cond.methodLink RX0 107 yX0_firstFreeFor, Cond.instanceMethod yX0_firstFreeFor, Cond.selects RX0 yX0_firstFreeFor yX0_firstFreeFor, Cond.code yX0_firstFreeFor cX0_firstFreeFor 6 (some .int), Cond.methodLink RX0 110 yX0_isFree, Cond.instanceMethod yX0_isFree, Cond.selects RX0 yX0_isFree yX0_isFree, Cond.code yX0_isFree cX0_isFree 2 (some .boolean), Cond.methodLink RX3 284 yX3_playBuy, Cond.instanceMethod yX3_playBuy, Cond.selects RX3 yX3_playBuy yX3_playBuy, Cond.code yX3_playBuy cX3_playBuy 4 (some .int), Cond.methodLink RX3 59 yX0_reasonNotToBuy, Cond.instanceMethod yX0_reasonNotToBuy, Cond.selects RX0 yX0_reasonNotToBuy yX0_reasonNotToBuy, Cond.code yX0_reasonNotToBuy cX0_reasonNotToBuy 2 (some .int), Cond.methodLink RX0 66 yX0_doveCount, Cond.instanceMethod yX0_doveCount]
def wsX3_playEvening_r5 : List Cond := [Cond.selects RX0 yX0_doveCount yX0_doveCount, Cond.code yX0_doveCount cX0_doveCount 3 (some .int), Cond.methodLink RX3 71 yX0_addDove, Cond.instanceMethod yX0_addDove, Cond.selects RX0 yX0_addDove yX0_addDove, Cond.code yX0_addDove cX0_addDove 4 (some .int), Cond.methodLink RX3 287 yX3_playMate, Cond.instanceMethod yX3_playMate, Cond.selects RX3 yX3_playMate yX3_playMate, Cond.code yX3_playMate cX3_playMate 4 (some .int), Cond.methodLink RX3 81 yX0_reasonNotToPair, Cond.instanceMethod yX0_reasonNotToPair, Cond.selects RX0 yX0_reasonNotToPair yX0_reasonNotToPair, Cond.code yX0_reasonNotToPair cX0_reasonNotToPair 4 (some .int), Cond.methodLink RX3 86 yX0_pair, Cond.instanceMethod yX0_pair, Cond.selects RX0 yX0_pair yX0_pair, Cond.code yX0_pair cX0_pair 3 none, Cond.methodLink RX3 290 yX3_playShut, Cond.instanceMethod yX3_playShut, Cond.selects RX3 yX3_playShut yX3_playShut, Cond.code yX3_playShut cX3_playShut 3 (some .int), Cond.methodLink RX3 94 yX0_reasonNotToShut, Cond.instanceMethod yX0_reasonNotToShut]
def wsX3_playEvening_r6 : List Cond := [Cond.selects RX0 yX0_reasonNotToShut yX0_reasonNotToShut, Cond.code yX0_reasonNotToShut cX0_reasonNotToShut 2 (some .int), Cond.methodLink RX3 99 yX0_setOpen, Cond.instanceMethod yX0_setOpen, Cond.selects RX0 yX0_setOpen yX0_setOpen, Cond.code yX0_setOpen cX0_setOpen 3 none, Cond.methodLink RX3 257 yX3_isHole, Cond.methodLink RX3 126 yX0_endNight, Cond.instanceMethod yX0_endNight, Cond.selects RX0 yX0_endNight yX0_endNight, Cond.code yX0_endNight cX0_endNight 2 (some .int), Cond.fieldLink RX0 23 "LateDoves$Cote" "atDawn" "[I", Cond.fieldLink RX0 46 "LateDoves$Cote" "day" "I", Cond.methodLink RX0 116 yX0_countAtDawn, Cond.instanceMethod yX0_countAtDawn, Cond.selects RX0 yX0_countAtDawn yX0_countAtDawn, Cond.code yX0_countAtDawn cX0_countAtDawn 3 none, Cond.methodLink RX3 136 yX1_take, Cond.instanceMethod yX1_take, Cond.selects RX1 yX1_take yX1_take, Cond.code yX1_take cX1_take 2 (some .boolean), Cond.methodLink RX1 24 yX1_takeLetter, Cond.instanceMethod yX1_takeLetter, Cond.selects RX1 yX1_takeLetter yX1_takeLetter]
def wsX3_playEvening_r7 : List Cond := [Cond.code yX1_takeLetter cX1_takeLetter 2 (some .boolean), Cond.methodLink RX1 28 yX1_takeEnd, Cond.instanceMethod yX1_takeEnd, Cond.selects RX1 yX1_takeEnd yX1_takeEnd, Cond.code yX1_takeEnd cX1_takeEnd 1 (some .boolean), Cond.methodLink RX1 42 yX1_isComplete, Cond.instanceMethod yX1_isComplete, Cond.selects RX1 yX1_isComplete yX1_isComplete, Cond.code yX1_isComplete cX1_isComplete 1 (some .boolean), Cond.methodLink RX1 38 yX1_signBehindFirst, Cond.instanceMethod yX1_signBehindFirst, Cond.selects RX1 yX1_signBehindFirst yX1_signBehindFirst, Cond.code yX1_signBehindFirst cX1_signBehindFirst 1 (some .int), Cond.methodLink RX1 45 yX1_begin, Cond.methodLink RX1 32 yX1_takeDigit, Cond.instanceMethod yX1_takeDigit, Cond.selects RX1 yX1_takeDigit yX1_takeDigit, Cond.code yX1_takeDigit cX1_takeDigit 3 (some .boolean), Cond.methodLink RX1 48 yX1_grown, Cond.static yX1_grown, Cond.code yX1_grown cX1_grown 2 (some .int), Cond.methodLink RX1 52 yX1_highestFirst, Cond.instanceMethod yX1_highestFirst, Cond.selects RX1 yX1_highestFirst yX1_highestFirst]
def wsX3_playEvening_r8 : List Cond := [Cond.code yX1_highestFirst cX1_highestFirst 1 (some .int), Cond.methodLink RX1 55 yX1_lowestSecond, Cond.instanceMethod yX1_lowestSecond, Cond.selects RX1 yX1_lowestSecond yX1_lowestSecond, Cond.code yX1_lowestSecond cX1_lowestSecond 1 (some .int), Cond.methodLink RX1 58 yX1_highestSecond, Cond.instanceMethod yX1_highestSecond, Cond.selects RX1 yX1_highestSecond yX1_highestSecond, Cond.code yX1_highestSecond cX1_highestSecond 1 (some .int), Cond.methodLink RX1 35 yX1_takeSign, Cond.instanceMethod yX1_takeSign, Cond.selects RX1 yX1_takeSign yX1_takeSign, Cond.code yX1_takeSign cX1_takeSign 2 (some .boolean)]
def wsX3_playEvening : List Cond := .code yX3_playEvening cX3_playEvening 4 (some .int) :: ((wsX3_playEvening_r1 ++ (wsX3_playEvening_r2 ++ (wsX3_playEvening_r3 ++ (wsX3_playEvening_r4 ++ (wsX3_playEvening_r5 ++ (wsX3_playEvening_r6 ++ (wsX3_playEvening_r7 ++ wsX3_playEvening_r8))))))) ++ wsX30 ++ wsX00 ++ wsX10 ++ wsX20)
def wsX3_pass_r1 : List Cond := [Cond.classLink RX3 52 "java/lang/IllegalArgumentException", Cond.initialized "java/lang/IllegalArgumentException", Cond.fieldLink RX3 38 "LateDoves" "length" "I", Cond.fieldLink RX3 44 "LateDoves" "reader" "LLateDoves$PartReader;", Cond.methodLink RX3 140 yX3_firstError, Cond.instanceMethod yX3_firstError, Cond.selects RX3 yX3_firstError yX3_firstError, Cond.initialized RX3, Cond.code yX3_firstError cX3_firstError 2 (some .int), Cond.fieldLink RX3 34 "LateDoves" "buffer" "[I", Cond.methodLink RX3 133 yX1_begin, Cond.instanceMethod yX1_begin, Cond.selects RX1 yX1_begin yX1_begin, Cond.initialized RX1, Cond.code yX1_begin cX1_begin 1 none, Cond.fieldLink RX1 11 "LateDoves$PartReader" "stage" "I", Cond.fieldLink RX1 15 "LateDoves$PartReader" "kind" "I", Cond.fieldLink RX1 18 "LateDoves$PartReader" "first" "I", Cond.fieldLink RX1 21 "LateDoves$PartReader" "second" "I", Cond.methodLink RX3 136 yX1_take, Cond.instanceMethod yX1_take, Cond.selects RX1 yX1_take yX1_take, Cond.code yX1_take cX1_take 2 (some .boolean), Cond.methodLink RX1 24 yX1_takeLetter]
def wsX3_pass_r2 : List Cond := [Cond.instanceMethod yX1_takeLetter, Cond.selects RX1 yX1_takeLetter yX1_takeLetter, Cond.code yX1_takeLetter cX1_takeLetter 2 (some .boolean), Cond.methodLink RX1 28 yX1_takeEnd, Cond.instanceMethod yX1_takeEnd, Cond.selects RX1 yX1_takeEnd yX1_takeEnd, Cond.code yX1_takeEnd cX1_takeEnd 1 (some .boolean), Cond.methodLink RX1 42 yX1_isComplete, Cond.instanceMethod yX1_isComplete, Cond.selects RX1 yX1_isComplete yX1_isComplete, Cond.code yX1_isComplete cX1_isComplete 1 (some .boolean), Cond.methodLink RX1 38 yX1_signBehindFirst, Cond.instanceMethod yX1_signBehindFirst, Cond.selects RX1 yX1_signBehindFirst yX1_signBehindFirst, Cond.code yX1_signBehindFirst cX1_signBehindFirst 1 (some .int), Cond.methodLink RX1 45 yX1_begin, Cond.methodLink RX1 32 yX1_takeDigit, Cond.instanceMethod yX1_takeDigit, Cond.selects RX1 yX1_takeDigit yX1_takeDigit, Cond.code yX1_takeDigit cX1_takeDigit 3 (some .boolean), Cond.methodLink RX1 48 yX1_grown, Cond.static yX1_grown, Cond.code yX1_grown cX1_grown 2 (some .int), Cond.methodLink RX1 52 yX1_highestFirst]
def wsX3_pass_r3 : List Cond := [Cond.instanceMethod yX1_highestFirst, Cond.selects RX1 yX1_highestFirst yX1_highestFirst, Cond.code yX1_highestFirst cX1_highestFirst 1 (some .int), Cond.methodLink RX1 55 yX1_lowestSecond, Cond.instanceMethod yX1_lowestSecond, Cond.selects RX1 yX1_lowestSecond yX1_lowestSecond, Cond.code yX1_lowestSecond cX1_lowestSecond 1 (some .int), Cond.methodLink RX1 58 yX1_highestSecond, Cond.instanceMethod yX1_highestSecond, Cond.selects RX1 yX1_highestSecond yX1_highestSecond, Cond.code yX1_highestSecond cX1_highestSecond 1 (some .int), Cond.methodLink RX1 35 yX1_takeSign, Cond.instanceMethod yX1_takeSign, Cond.selects RX1 yX1_takeSign yX1_takeSign, Cond.code yX1_takeSign cX1_takeSign 2 (some .boolean), Cond.methodLink RX3 143 yX1_isComplete, Cond.methodLink RX3 68 yX3_save, Cond.instanceMethod yX3_save, Cond.selects RX3 yX3_save yX3_save, Cond.code yX3_save cX3_save 3 none, Cond.fieldLink RX3 30 "LateDoves" "savedCount" "I", Cond.fieldLink RX3 26 "LateDoves" "saved" "[LLateDoves$Cote;", Cond.fieldLink RX3 10 "LateDoves" "now" "LLateDoves$Cote;", Cond.methodLink RX3 159 yX0_copyFrom]
def wsX3_pass_r4 : List Cond := [Cond.instanceMethod yX0_copyFrom, Cond.selects RX0 yX0_copyFrom yX0_copyFrom, Cond.initialized RX0, Cond.code yX0_copyFrom cX0_copyFrom 3 none, Cond.fieldLink RX0 11 "LateDoves$Cote" "doves" "[[I", Cond.methodLink RX0 36 arraycopyName, Cond.native arraycopyName, Cond.static arraycopyName, Cond.initialized "java/lang/System", Cond.fieldLink RX0 16 "LateDoves$Cote" "holes" "[[I", Cond.fieldLink RX0 19 "LateDoves$Cote" "settings" "[I", Cond.fieldLink RX0 23 "LateDoves$Cote" "atDawn" "[I", Cond.fieldLink RX0 26 "LateDoves$Cote" "stop" "[I", Cond.fieldLink RX0 32 "LateDoves$Cote" "way" "LLateDoves$Way;", Cond.fieldLink RX0 46 "LateDoves$Cote" "day" "I", Cond.fieldLink RX0 50 "LateDoves$Cote" "time" "I", Cond.fieldLink RX0 53 "LateDoves$Cote" "shifts" "I", Cond.fieldLink RX0 56 "LateDoves$Cote" "quarrels" "I", Cond.methodLink RX0 42 yX2_copyFrom, Cond.instanceMethod yX2_copyFrom, Cond.selects RX2 yX2_copyFrom yX2_copyFrom, Cond.initialized RX2, Cond.code yX2_copyFrom cX2_copyFrom 2 none, Cond.fieldLink RX2 9 "LateDoves$Way" "who" "[I"]
def wsX3_pass_r5 : List Cond := [Cond.methodLink RX2 22 arraycopyName, Cond.fieldLink RX2 15 "LateDoves$Way" "where" "[I", Cond.fieldLink RX2 18 "LateDoves$Way" "size" "I", Cond.methodLink RX3 149 yX3_playEvening, Cond.instanceMethod yX3_playEvening, Cond.selects RX3 yX3_playEvening yX3_playEvening, Cond.code yX3_playEvening cX3_playEvening 4 (some .int), Cond.methodLink RX3 266 yX0_noteStop, Cond.instanceMethod yX0_noteStop, Cond.selects RX0 yX0_noteStop yX0_noteStop, Cond.code yX0_noteStop cX0_noteStop 3 none, Cond.methodLink RX3 269 yX3_playPart, Cond.instanceMethod yX3_playPart, Cond.selects RX3 yX3_playPart yX3_playPart, Cond.code yX3_playPart cX3_playPart 3 (some .int), Cond.methodLink RX3 281 yX3_playHome, Cond.instanceMethod yX3_playHome, Cond.selects RX3 yX3_playHome yX3_playHome, Cond.code yX3_playHome cX3_playHome 4 (some .int), Cond.methodLink RX3 232 yX0_exists, Cond.instanceMethod yX0_exists, Cond.selects RX0 yX0_exists yX0_exists, Cond.code yX0_exists cX0_exists 2 (some .boolean), Cond.methodLink RX3 118 yX0_reasonNotHome]
def wsX3_pass_r6 : List Cond := [Cond.instanceMethod yX0_reasonNotHome, Cond.selects RX0 yX0_reasonNotHome yX0_reasonNotHome, Cond.code yX0_reasonNotHome cX0_reasonNotHome 3 (some .int), Cond.methodLink RX3 123 yX0_comeHome, Cond.instanceMethod yX0_comeHome, Cond.selects RX0 yX0_comeHome yX0_comeHome, Cond.code yX0_comeHome cX0_comeHome 8 (some .int), Cond.methodLink RX0 63 yX0_isOpen, Cond.instanceMethod yX0_isOpen, Cond.selects RX0 yX0_isOpen yX0_isOpen, Cond.code yX0_isOpen cX0_isOpen 2 (some .boolean), Cond.static yX3_isHole, Cond.code yX3_isHole cX3_isHole 1 (some .boolean), Cond.methodLink RX0 92 yX0_enterOwnHole, Cond.instanceMethod yX0_enterOwnHole, Cond.selects RX0 yX0_enterOwnHole yX0_enterOwnHole, Cond.code yX0_enterOwnHole cX0_enterOwnHole 5 (some .int), Cond.methodLink RX0 86 yX0_exists, Cond.methodLink RX0 99 yX0_shiftFrom, Cond.instanceMethod yX0_shiftFrom, Cond.selects RX0 yX0_shiftFrom yX0_shiftFrom, Cond.code yX0_shiftFrom cX0_shiftFrom 4 (some .int), Cond.methodLink RX0 103 yX0_sit, Cond.instanceMethod yX0_sit]
def wsX3_pass_r7 : List Cond := [Cond.selects RX0 yX0_sit yX0_sit, Cond.code yX0_sit cX0_sit 3 none, Cond.methodLink RX0 113 yX2_note, Cond.instanceMethod yX2_note, Cond.selects RX2 yX2_note yX2_note, Cond.code yX2_note cX2_note 3 none, Cond.methodLink RX0 96 yX0_settle, Cond.instanceMethod yX0_settle, Cond.selects RX0 yX0_settle yX0_settle, Cond.code yX0_settle cX0_settle 6 (some .int), Cond.methodLink RX0 107 yX0_firstFreeFor, Cond.instanceMethod yX0_firstFreeFor, Cond.selects RX0 yX0_firstFreeFor yX0_firstFreeFor, Cond.code yX0_firstFreeFor cX0_firstFreeFor 6 (some .int), Cond.methodLink RX0 110 yX0_isFree, Cond.instanceMethod yX0_isFree, Cond.selects RX0 yX0_isFree yX0_isFree, Cond.code yX0_isFree cX0_isFree 2 (some .boolean), Cond.methodLink RX3 284 yX3_playBuy, Cond.instanceMethod yX3_playBuy, Cond.selects RX3 yX3_playBuy yX3_playBuy, Cond.code yX3_playBuy cX3_playBuy 4 (some .int), Cond.methodLink RX3 59 yX0_reasonNotToBuy, Cond.instanceMethod yX0_reasonNotToBuy]
def wsX3_pass_r8 : List Cond := [Cond.selects RX0 yX0_reasonNotToBuy yX0_reasonNotToBuy, Cond.code yX0_reasonNotToBuy cX0_reasonNotToBuy 2 (some .int), Cond.methodLink RX0 66 yX0_doveCount, Cond.instanceMethod yX0_doveCount, Cond.selects RX0 yX0_doveCount yX0_doveCount, Cond.code yX0_doveCount cX0_doveCount 3 (some .int), Cond.methodLink RX3 71 yX0_addDove, Cond.instanceMethod yX0_addDove, Cond.selects RX0 yX0_addDove yX0_addDove, Cond.code yX0_addDove cX0_addDove 4 (some .int), Cond.methodLink RX3 287 yX3_playMate, Cond.instanceMethod yX3_playMate, Cond.selects RX3 yX3_playMate yX3_playMate, Cond.code yX3_playMate cX3_playMate 4 (some .int), Cond.methodLink RX3 81 yX0_reasonNotToPair, Cond.instanceMethod yX0_reasonNotToPair, Cond.selects RX0 yX0_reasonNotToPair yX0_reasonNotToPair, Cond.code yX0_reasonNotToPair cX0_reasonNotToPair 4 (some .int), Cond.methodLink RX3 86 yX0_pair, Cond.instanceMethod yX0_pair, Cond.selects RX0 yX0_pair yX0_pair, Cond.code yX0_pair cX0_pair 3 none, Cond.methodLink RX3 290 yX3_playShut, Cond.instanceMethod yX3_playShut]
def wsX3_pass_r9 : List Cond := [Cond.selects RX3 yX3_playShut yX3_playShut, Cond.code yX3_playShut cX3_playShut 3 (some .int), Cond.methodLink RX3 94 yX0_reasonNotToShut, Cond.instanceMethod yX0_reasonNotToShut, Cond.selects RX0 yX0_reasonNotToShut yX0_reasonNotToShut, Cond.code yX0_reasonNotToShut cX0_reasonNotToShut 2 (some .int), Cond.methodLink RX3 99 yX0_setOpen, Cond.instanceMethod yX0_setOpen, Cond.selects RX0 yX0_setOpen yX0_setOpen, Cond.code yX0_setOpen cX0_setOpen 3 none, Cond.methodLink RX3 257 yX3_isHole, Cond.methodLink RX3 126 yX0_endNight, Cond.instanceMethod yX0_endNight, Cond.selects RX0 yX0_endNight yX0_endNight, Cond.code yX0_endNight cX0_endNight 2 (some .int), Cond.methodLink RX0 116 yX0_countAtDawn, Cond.instanceMethod yX0_countAtDawn, Cond.selects RX0 yX0_countAtDawn yX0_countAtDawn, Cond.code yX0_countAtDawn cX0_countAtDawn 3 none]
def wsX3_pass : List Cond := .code yX3_pass cX3_pass 2 (some .int) :: ((wsX3_pass_r1 ++ (wsX3_pass_r2 ++ (wsX3_pass_r3 ++ (wsX3_pass_r4 ++ (wsX3_pass_r5 ++ (wsX3_pass_r6 ++ (wsX3_pass_r7 ++ (wsX3_pass_r8 ++ wsX3_pass_r9)))))))) ++ wsX30 ++ wsX10 ++ wsX00 ++ wsX20 ++ (vx_atS RX3 56 "java/lang/IllegalArgumentException" ["java/lang/RuntimeException", "java/lang/Exception"]).filter goodWord)
def wsX3_stopped : List Cond := .code yX3_stopped cX3_stopped 2 (some .int) :: ([.classLink RX3 52 "java/lang/IllegalArgumentException", .initialized "java/lang/IllegalArgumentException", .fieldLink RX3 10 "LateDoves" "now" "LLateDoves$Cote;"] ++ wsX30 ++ wsX00 ++ (vx_atS RX3 56 "java/lang/IllegalArgumentException" ["java/lang/RuntimeException", "java/lang/Exception"]).filter goodWord)
def wsX3_undo_r1 : List Cond := [Cond.classLink RX3 63 "java/lang/IllegalStateException", Cond.initialized "java/lang/IllegalStateException", Cond.fieldLink RX3 30 "LateDoves" "savedCount" "I", Cond.fieldLink RX3 10 "LateDoves" "now" "LLateDoves$Cote;", Cond.fieldLink RX3 26 "LateDoves" "saved" "[LLateDoves$Cote;", Cond.methodLink RX3 159 yX0_copyFrom, Cond.instanceMethod yX0_copyFrom, Cond.selects RX0 yX0_copyFrom yX0_copyFrom, Cond.initialized RX0, Cond.code yX0_copyFrom cX0_copyFrom 3 none, Cond.fieldLink RX0 11 "LateDoves$Cote" "doves" "[[I", Cond.methodLink RX0 36 arraycopyName, Cond.native arraycopyName, Cond.static arraycopyName, Cond.initialized "java/lang/System", Cond.fieldLink RX0 16 "LateDoves$Cote" "holes" "[[I", Cond.fieldLink RX0 19 "LateDoves$Cote" "settings" "[I", Cond.fieldLink RX0 23 "LateDoves$Cote" "atDawn" "[I", Cond.fieldLink RX0 26 "LateDoves$Cote" "stop" "[I", Cond.fieldLink RX0 32 "LateDoves$Cote" "way" "LLateDoves$Way;", Cond.fieldLink RX0 46 "LateDoves$Cote" "day" "I", Cond.fieldLink RX0 50 "LateDoves$Cote" "time" "I", Cond.fieldLink RX0 53 "LateDoves$Cote" "shifts" "I", Cond.fieldLink RX0 56 "LateDoves$Cote" "quarrels" "I"]
def wsX3_undo_r2 : List Cond := [Cond.methodLink RX0 42 yX2_copyFrom, Cond.instanceMethod yX2_copyFrom, Cond.selects RX2 yX2_copyFrom yX2_copyFrom, Cond.initialized RX2, Cond.code yX2_copyFrom cX2_copyFrom 2 none, Cond.fieldLink RX2 9 "LateDoves$Way" "who" "[I", Cond.methodLink RX2 22 arraycopyName, Cond.fieldLink RX2 15 "LateDoves$Way" "where" "[I", Cond.fieldLink RX2 18 "LateDoves$Way" "size" "I"]
def wsX3_undo : List Cond := .code yX3_undo cX3_undo 1 (some .int) :: ((wsX3_undo_r1 ++ wsX3_undo_r2) ++ wsX30 ++ wsX00 ++ wsX20 ++ (vx_atS RX3 67 "java/lang/IllegalStateException" ["java/lang/RuntimeException", "java/lang/Exception"]).filter goodWord)
def wsX3_keep_r1 : List Cond := [Cond.fieldLink RX3 19 "LateDoves" "snapshot" "LLateDoves$Cote;", Cond.fieldLink RX3 10 "LateDoves" "now" "LLateDoves$Cote;", Cond.fieldLink RX3 22 "LateDoves" "hasSnapshot" "Z", Cond.methodLink RX3 159 yX0_copyFrom, Cond.instanceMethod yX0_copyFrom, Cond.selects RX0 yX0_copyFrom yX0_copyFrom, Cond.initialized RX0, Cond.code yX0_copyFrom cX0_copyFrom 3 none, Cond.fieldLink RX0 11 "LateDoves$Cote" "doves" "[[I", Cond.methodLink RX0 36 arraycopyName, Cond.native arraycopyName, Cond.static arraycopyName, Cond.initialized "java/lang/System", Cond.fieldLink RX0 16 "LateDoves$Cote" "holes" "[[I", Cond.fieldLink RX0 19 "LateDoves$Cote" "settings" "[I", Cond.fieldLink RX0 23 "LateDoves$Cote" "atDawn" "[I", Cond.fieldLink RX0 26 "LateDoves$Cote" "stop" "[I", Cond.fieldLink RX0 32 "LateDoves$Cote" "way" "LLateDoves$Way;", Cond.fieldLink RX0 46 "LateDoves$Cote" "day" "I", Cond.fieldLink RX0 50 "LateDoves$Cote" "time" "I", Cond.fieldLink RX0 53 "LateDoves$Cote" "shifts" "I", Cond.fieldLink RX0 56 "LateDoves$Cote" "quarrels" "I", Cond.methodLink RX0 42 yX2_copyFrom, Cond.instanceMethod yX2_copyFrom]
def wsX3_keep_r2 : List Cond := [Cond.selects RX2 yX2_copyFrom yX2_copyFrom, Cond.initialized RX2, Cond.code yX2_copyFrom cX2_copyFrom 2 none, Cond.fieldLink RX2 9 "LateDoves$Way" "who" "[I", Cond.methodLink RX2 22 arraycopyName, Cond.fieldLink RX2 15 "LateDoves$Way" "where" "[I", Cond.fieldLink RX2 18 "LateDoves$Way" "size" "I"]
def wsX3_keep : List Cond := .code yX3_keep cX3_keep 1 (some .int) :: ((wsX3_keep_r1 ++ wsX3_keep_r2) ++ wsX30 ++ wsX00 ++ wsX20)
def wsX3_restore_r1 : List Cond := [Cond.classLink RX3 63 "java/lang/IllegalStateException", Cond.initialized "java/lang/IllegalStateException", Cond.fieldLink RX3 22 "LateDoves" "hasSnapshot" "Z", Cond.fieldLink RX3 10 "LateDoves" "now" "LLateDoves$Cote;", Cond.fieldLink RX3 19 "LateDoves" "snapshot" "LLateDoves$Cote;", Cond.methodLink RX3 68 yX3_save, Cond.instanceMethod yX3_save, Cond.selects RX3 yX3_save yX3_save, Cond.initialized RX3, Cond.code yX3_save cX3_save 3 none, Cond.fieldLink RX3 30 "LateDoves" "savedCount" "I", Cond.fieldLink RX3 26 "LateDoves" "saved" "[LLateDoves$Cote;", Cond.methodLink RX3 159 yX0_copyFrom, Cond.instanceMethod yX0_copyFrom, Cond.selects RX0 yX0_copyFrom yX0_copyFrom, Cond.initialized RX0, Cond.code yX0_copyFrom cX0_copyFrom 3 none, Cond.fieldLink RX0 11 "LateDoves$Cote" "doves" "[[I", Cond.methodLink RX0 36 arraycopyName, Cond.native arraycopyName, Cond.static arraycopyName, Cond.initialized "java/lang/System", Cond.fieldLink RX0 16 "LateDoves$Cote" "holes" "[[I", Cond.fieldLink RX0 19 "LateDoves$Cote" "settings" "[I"]
def wsX3_restore_r2 : List Cond := [Cond.fieldLink RX0 23 "LateDoves$Cote" "atDawn" "[I", Cond.fieldLink RX0 26 "LateDoves$Cote" "stop" "[I", Cond.fieldLink RX0 32 "LateDoves$Cote" "way" "LLateDoves$Way;", Cond.fieldLink RX0 46 "LateDoves$Cote" "day" "I", Cond.fieldLink RX0 50 "LateDoves$Cote" "time" "I", Cond.fieldLink RX0 53 "LateDoves$Cote" "shifts" "I", Cond.fieldLink RX0 56 "LateDoves$Cote" "quarrels" "I", Cond.methodLink RX0 42 yX2_copyFrom, Cond.instanceMethod yX2_copyFrom, Cond.selects RX2 yX2_copyFrom yX2_copyFrom, Cond.initialized RX2, Cond.code yX2_copyFrom cX2_copyFrom 2 none, Cond.fieldLink RX2 9 "LateDoves$Way" "who" "[I", Cond.methodLink RX2 22 arraycopyName, Cond.fieldLink RX2 15 "LateDoves$Way" "where" "[I", Cond.fieldLink RX2 18 "LateDoves$Way" "size" "I"]
def wsX3_restore : List Cond := .code yX3_restore cX3_restore 1 (some .int) :: ((wsX3_restore_r1 ++ wsX3_restore_r2) ++ wsX30 ++ wsX00 ++ wsX20 ++ (vx_atS RX3 67 "java/lang/IllegalStateException" ["java/lang/RuntimeException", "java/lang/Exception"]).filter goodWord)
def wsX3_dove : List Cond := .code yX3_dove cX3_dove 3 (some .int) :: ([.classLink RX3 52 "java/lang/IllegalArgumentException", .initialized "java/lang/IllegalArgumentException", .fieldLink RX3 10 "LateDoves" "now" "LLateDoves$Cote;", .methodLink RX3 75 yX3_needDove, .instanceMethod yX3_needDove, .selects RX3 yX3_needDove yX3_needDove, .initialized RX3, .code yX3_needDove cX3_needDove 2 none, .classLink RX3 105 "java/lang/IndexOutOfBoundsException", .initialized "java/lang/IndexOutOfBoundsException", .methodLink RX3 232 yX0_exists, .instanceMethod yX0_exists, .selects RX0 yX0_exists yX0_exists, .initialized RX0, .code yX0_exists cX0_exists 2 (some .boolean), .fieldLink RX0 11 "LateDoves$Cote" "doves" "[[I"] ++ wsX30 ++ wsX00 ++ (vx_atS RX3 56 "java/lang/IllegalArgumentException" ["java/lang/RuntimeException", "java/lang/Exception"]).filter goodWord ++ (vx_atS RX3 109 "java/lang/IndexOutOfBoundsException" ["java/lang/RuntimeException", "java/lang/Exception"]).filter goodWord)
def wsX3_hole : List Cond := .code yX3_hole cX3_hole 3 (some .int) :: ([.classLink RX3 52 "java/lang/IllegalArgumentException", .initialized "java/lang/IllegalArgumentException", .fieldLink RX3 10 "LateDoves" "now" "LLateDoves$Cote;", .methodLink RX3 48 yX3_needHole, .static yX3_needHole, .initialized RX3, .code yX3_needHole cX3_needHole 1 none, .classLink RX3 105 "java/lang/IndexOutOfBoundsException", .initialized "java/lang/IndexOutOfBoundsException", .methodLink RX3 257 yX3_isHole, .static yX3_isHole, .code yX3_isHole cX3_isHole 1 (some .boolean)] ++ wsX30 ++ wsX00 ++ (vx_atS RX3 56 "java/lang/IllegalArgumentException" ["java/lang/RuntimeException", "java/lang/Exception"]).filter goodWord ++ (vx_atS RX3 109 "java/lang/IndexOutOfBoundsException" ["java/lang/RuntimeException", "java/lang/Exception"]).filter goodWord)
def wsX3_count_r1 : List Cond := [Cond.classLink RX3 52 "java/lang/IllegalArgumentException", Cond.initialized "java/lang/IllegalArgumentException", Cond.fieldLink RX3 30 "LateDoves" "savedCount" "I", Cond.fieldLink RX3 10 "LateDoves" "now" "LLateDoves$Cote;", Cond.methodLink RX3 181 yX0_numberOf, Cond.instanceMethod yX0_numberOf, Cond.selects RX0 yX0_numberOf yX0_numberOf, Cond.initialized RX0, Cond.code yX0_numberOf cX0_numberOf 2 (some .int), Cond.fieldLink RX0 46 "LateDoves$Cote" "day" "I", Cond.fieldLink RX0 50 "LateDoves$Cote" "time" "I", Cond.fieldLink RX0 53 "LateDoves$Cote" "shifts" "I", Cond.fieldLink RX0 56 "LateDoves$Cote" "quarrels" "I", Cond.fieldLink RX0 23 "LateDoves$Cote" "atDawn" "[I", Cond.fieldLink RX0 19 "LateDoves$Cote" "settings" "[I", Cond.methodLink RX0 66 yX0_doveCount, Cond.instanceMethod yX0_doveCount, Cond.selects RX0 yX0_doveCount yX0_doveCount, Cond.code yX0_doveCount cX0_doveCount 3 (some .int), Cond.methodLink RX0 86 yX0_exists, Cond.instanceMethod yX0_exists, Cond.selects RX0 yX0_exists yX0_exists, Cond.code yX0_exists cX0_exists 2 (some .boolean), Cond.fieldLink RX0 11 "LateDoves$Cote" "doves" "[[I"]
def wsX3_count_r2 : List Cond := [Cond.methodLink RX0 70 yX0_sittingByDoves, Cond.instanceMethod yX0_sittingByDoves, Cond.selects RX0 yX0_sittingByDoves yX0_sittingByDoves, Cond.code yX0_sittingByDoves cX0_sittingByDoves 1 (some .int), Cond.methodLink RX0 76 yX0_placedAt, Cond.instanceMethod yX0_placedAt, Cond.selects RX0 yX0_placedAt yX0_placedAt, Cond.code yX0_placedAt cX0_placedAt 4 (some .int), Cond.methodLink RX0 73 yX0_sittingByHoles, Cond.instanceMethod yX0_sittingByHoles, Cond.selects RX0 yX0_sittingByHoles yX0_sittingByHoles, Cond.code yX0_sittingByHoles cX0_sittingByHoles 3 (some .int), Cond.fieldLink RX0 16 "LateDoves$Cote" "holes" "[[I", Cond.methodLink RX0 80 yX0_openHoles, Cond.instanceMethod yX0_openHoles, Cond.selects RX0 yX0_openHoles yX0_openHoles, Cond.code yX0_openHoles cX0_openHoles 3 (some .int), Cond.methodLink RX0 63 yX0_isOpen, Cond.instanceMethod yX0_isOpen, Cond.selects RX0 yX0_isOpen yX0_isOpen, Cond.code yX0_isOpen cX0_isOpen 2 (some .boolean), Cond.static yX3_isHole, Cond.initialized RX3, Cond.code yX3_isHole cX3_isHole 1 (some .boolean)]
def wsX3_count_r3 : List Cond := [Cond.methodLink RX0 83 yX0_pairs, Cond.instanceMethod yX0_pairs, Cond.selects RX0 yX0_pairs yX0_pairs, Cond.code yX0_pairs cX0_pairs 3 (some .int)]
def wsX3_count : List Cond := .code yX3_count cX3_count 2 (some .int) :: ((wsX3_count_r1 ++ (wsX3_count_r2 ++ wsX3_count_r3)) ++ wsX30 ++ wsX00 ++ (vx_atS RX3 56 "java/lang/IllegalArgumentException" ["java/lang/RuntimeException", "java/lang/Exception"]).filter goodWord)
def wsX3_step : List Cond := .code yX3_step cX3_step 3 (some .int) :: ([.classLink RX3 52 "java/lang/IllegalArgumentException", .initialized "java/lang/IllegalArgumentException", .fieldLink RX3 10 "LateDoves" "now" "LLateDoves$Cote;"] ++ wsX30 ++ wsX00 ++ wsX20 ++ (vx_atS RX3 56 "java/lang/IllegalArgumentException" ["java/lang/RuntimeException", "java/lang/Exception"]).filter goodWord)
def wsX3_whyNot : List Cond := .code yX3_whyNot cX3_whyNot 3 (some .int) :: ([.fieldLink RX3 10 "LateDoves" "now" "LLateDoves$Cote;", .methodLink RX3 75 yX3_needDove, .instanceMethod yX3_needDove, .selects RX3 yX3_needDove yX3_needDove, .initialized RX3, .code yX3_needDove cX3_needDove 2 none, .classLink RX3 105 "java/lang/IndexOutOfBoundsException", .initialized "java/lang/IndexOutOfBoundsException", .methodLink RX3 232 yX0_exists, .instanceMethod yX0_exists, .selects RX0 yX0_exists yX0_exists, .initialized RX0, .code yX0_exists cX0_exists 2 (some .boolean), .fieldLink RX0 11 "LateDoves$Cote" "doves" "[[I", .methodLink RX3 115 yX3_needTime, .static yX3_needTime, .code yX3_needTime cX3_needTime 1 none, .classLink RX3 52 "java/lang/IllegalArgumentException", .initialized "java/lang/IllegalArgumentException", .methodLink RX3 118 yX0_reasonNotHome, .instanceMethod yX0_reasonNotHome, .selects RX0 yX0_reasonNotHome yX0_reasonNotHome, .code yX0_reasonNotHome cX0_reasonNotHome 3 (some .int), .fieldLink RX0 50 "LateDoves$Cote" "time" "I"] ++ wsX30 ++ wsX00 ++ (vx_atS RX3 109 "java/lang/IndexOutOfBoundsException" ["java/lang/RuntimeException", "java/lang/Exception"]).filter goodWord ++ (vx_atS RX3 56 "java/lang/IllegalArgumentException" ["java/lang/RuntimeException", "java/lang/Exception"]).filter goodWord)
def wsX3_tryHome_r1 : List Cond := [Cond.fieldLink RX3 10 "LateDoves" "now" "LLateDoves$Cote;", Cond.fieldLink RX3 16 "LateDoves" "trial" "LLateDoves$Cote;", Cond.methodLink RX3 118 yX0_reasonNotHome, Cond.instanceMethod yX0_reasonNotHome, Cond.selects RX0 yX0_reasonNotHome yX0_reasonNotHome, Cond.initialized RX0, Cond.code yX0_reasonNotHome cX0_reasonNotHome 3 (some .int), Cond.fieldLink RX0 11 "LateDoves$Cote" "doves" "[[I", Cond.fieldLink RX0 50 "LateDoves$Cote" "time" "I", Cond.methodLink RX3 159 yX0_copyFrom, Cond.instanceMethod yX0_copyFrom, Cond.selects RX0 yX0_copyFrom yX0_copyFrom, Cond.code yX0_copyFrom cX0_copyFrom 3 none, Cond.methodLink RX0 36 arraycopyName, Cond.native arraycopyName, Cond.static arraycopyName, Cond.initialized "java/lang/System", Cond.fieldLink RX0 16 "LateDoves$Cote" "holes" "[[I", Cond.fieldLink RX0 19 "LateDoves$Cote" "settings" "[I", Cond.fieldLink RX0 23 "LateDoves$Cote" "atDawn" "[I", Cond.fieldLink RX0 26 "LateDoves$Cote" "stop" "[I", Cond.fieldLink RX0 32 "LateDoves$Cote" "way" "LLateDoves$Way;", Cond.fieldLink RX0 46 "LateDoves$Cote" "day" "I", Cond.fieldLink RX0 53 "LateDoves$Cote" "shifts" "I"]
def wsX3_tryHome_r2 : List Cond := [Cond.fieldLink RX0 56 "LateDoves$Cote" "quarrels" "I", Cond.methodLink RX0 42 yX2_copyFrom, Cond.instanceMethod yX2_copyFrom, Cond.selects RX2 yX2_copyFrom yX2_copyFrom, Cond.initialized RX2, Cond.code yX2_copyFrom cX2_copyFrom 2 none, Cond.fieldLink RX2 9 "LateDoves$Way" "who" "[I", Cond.methodLink RX2 22 arraycopyName, Cond.fieldLink RX2 15 "LateDoves$Way" "where" "[I", Cond.fieldLink RX2 18 "LateDoves$Way" "size" "I", Cond.methodLink RX3 123 yX0_comeHome, Cond.instanceMethod yX0_comeHome, Cond.selects RX0 yX0_comeHome yX0_comeHome, Cond.code yX0_comeHome cX0_comeHome 8 (some .int), Cond.methodLink RX0 63 yX0_isOpen, Cond.instanceMethod yX0_isOpen, Cond.selects RX0 yX0_isOpen yX0_isOpen, Cond.code yX0_isOpen cX0_isOpen 2 (some .boolean), Cond.static yX3_isHole, Cond.initialized RX3, Cond.code yX3_isHole cX3_isHole 1 (some .boolean), Cond.methodLink RX0 92 yX0_enterOwnHole, Cond.instanceMethod yX0_enterOwnHole, Cond.selects RX0 yX0_enterOwnHole yX0_enterOwnHole]
def wsX3_tryHome_r3 : List Cond := [Cond.code yX0_enterOwnHole cX0_enterOwnHole 5 (some .int), Cond.methodLink RX0 86 yX0_exists, Cond.instanceMethod yX0_exists, Cond.selects RX0 yX0_exists yX0_exists, Cond.code yX0_exists cX0_exists 2 (some .boolean), Cond.methodLink RX0 99 yX0_shiftFrom, Cond.instanceMethod yX0_shiftFrom, Cond.selects RX0 yX0_shiftFrom yX0_shiftFrom, Cond.code yX0_shiftFrom cX0_shiftFrom 4 (some .int), Cond.methodLink RX0 103 yX0_sit, Cond.instanceMethod yX0_sit, Cond.selects RX0 yX0_sit yX0_sit, Cond.code yX0_sit cX0_sit 3 none, Cond.methodLink RX0 113 yX2_note, Cond.instanceMethod yX2_note, Cond.selects RX2 yX2_note yX2_note, Cond.code yX2_note cX2_note 3 none, Cond.methodLink RX0 96 yX0_settle, Cond.instanceMethod yX0_settle, Cond.selects RX0 yX0_settle yX0_settle, Cond.code yX0_settle cX0_settle 6 (some .int), Cond.methodLink RX0 107 yX0_firstFreeFor, Cond.instanceMethod yX0_firstFreeFor, Cond.selects RX0 yX0_firstFreeFor yX0_firstFreeFor]
def wsX3_tryHome_r4 : List Cond := [Cond.code yX0_firstFreeFor cX0_firstFreeFor 6 (some .int), Cond.methodLink RX0 110 yX0_isFree, Cond.instanceMethod yX0_isFree, Cond.selects RX0 yX0_isFree yX0_isFree, Cond.code yX0_isFree cX0_isFree 2 (some .boolean)]
def wsX3_tryHome : List Cond := .code yX3_tryHome cX3_tryHome 3 (some .boolean) :: ((wsX3_tryHome_r1 ++ (wsX3_tryHome_r2 ++ (wsX3_tryHome_r3 ++ wsX3_tryHome_r4))) ++ wsX30 ++ wsX00 ++ wsX20)
def wsX3_trialNumber : List Cond := .code yX3_trialNumber cX3_trialNumber 3 (some .int) :: ([.fieldLink RX3 16 "LateDoves" "trial" "LLateDoves$Cote;", .fieldLink RX3 10 "LateDoves" "now" "LLateDoves$Cote;", .methodLink RX3 296 yX0_placedAt, .instanceMethod yX0_placedAt, .selects RX0 yX0_placedAt yX0_placedAt, .initialized RX0, .code yX0_placedAt cX0_placedAt 4 (some .int), .fieldLink RX0 11 "LateDoves$Cote" "doves" "[[I", .methodLink RX0 86 yX0_exists, .instanceMethod yX0_exists, .selects RX0 yX0_exists yX0_exists, .code yX0_exists cX0_exists 2 (some .boolean)] ++ wsX30 ++ wsX00)
def wsX3_ifHome_r1 : List Cond := [Cond.classLink RX3 52 "java/lang/IllegalArgumentException", Cond.initialized "java/lang/IllegalArgumentException", Cond.methodLink RX3 75 yX3_needDove, Cond.instanceMethod yX3_needDove, Cond.selects RX3 yX3_needDove yX3_needDove, Cond.initialized RX3, Cond.code yX3_needDove cX3_needDove 2 none, Cond.classLink RX3 105 "java/lang/IndexOutOfBoundsException", Cond.initialized "java/lang/IndexOutOfBoundsException", Cond.fieldLink RX3 10 "LateDoves" "now" "LLateDoves$Cote;", Cond.methodLink RX3 232 yX0_exists, Cond.instanceMethod yX0_exists, Cond.selects RX0 yX0_exists yX0_exists, Cond.initialized RX0, Cond.code yX0_exists cX0_exists 2 (some .boolean), Cond.fieldLink RX0 11 "LateDoves$Cote" "doves" "[[I", Cond.methodLink RX3 115 yX3_needTime, Cond.static yX3_needTime, Cond.code yX3_needTime cX3_needTime 1 none, Cond.methodLink RX3 201 yX3_tryHome, Cond.instanceMethod yX3_tryHome, Cond.selects RX3 yX3_tryHome yX3_tryHome, Cond.code yX3_tryHome cX3_tryHome 3 (some .boolean), Cond.fieldLink RX3 16 "LateDoves" "trial" "LLateDoves$Cote;"]
def wsX3_ifHome_r2 : List Cond := [Cond.methodLink RX3 118 yX0_reasonNotHome, Cond.instanceMethod yX0_reasonNotHome, Cond.selects RX0 yX0_reasonNotHome yX0_reasonNotHome, Cond.code yX0_reasonNotHome cX0_reasonNotHome 3 (some .int), Cond.fieldLink RX0 50 "LateDoves$Cote" "time" "I", Cond.methodLink RX3 159 yX0_copyFrom, Cond.instanceMethod yX0_copyFrom, Cond.selects RX0 yX0_copyFrom yX0_copyFrom, Cond.code yX0_copyFrom cX0_copyFrom 3 none, Cond.methodLink RX0 36 arraycopyName, Cond.native arraycopyName, Cond.static arraycopyName, Cond.initialized "java/lang/System", Cond.fieldLink RX0 16 "LateDoves$Cote" "holes" "[[I", Cond.fieldLink RX0 19 "LateDoves$Cote" "settings" "[I", Cond.fieldLink RX0 23 "LateDoves$Cote" "atDawn" "[I", Cond.fieldLink RX0 26 "LateDoves$Cote" "stop" "[I", Cond.fieldLink RX0 32 "LateDoves$Cote" "way" "LLateDoves$Way;", Cond.fieldLink RX0 46 "LateDoves$Cote" "day" "I", Cond.fieldLink RX0 53 "LateDoves$Cote" "shifts" "I", Cond.fieldLink RX0 56 "LateDoves$Cote" "quarrels" "I", Cond.methodLink RX0 42 yX2_copyFrom, Cond.instanceMethod yX2_copyFrom, Cond.selects RX2 yX2_copyFrom yX2_copyFrom]
def wsX3_ifHome_r3 : List Cond := [Cond.initialized RX2, Cond.code yX2_copyFrom cX2_copyFrom 2 none, Cond.fieldLink RX2 9 "LateDoves$Way" "who" "[I", Cond.methodLink RX2 22 arraycopyName, Cond.fieldLink RX2 15 "LateDoves$Way" "where" "[I", Cond.fieldLink RX2 18 "LateDoves$Way" "size" "I", Cond.methodLink RX3 123 yX0_comeHome, Cond.instanceMethod yX0_comeHome, Cond.selects RX0 yX0_comeHome yX0_comeHome, Cond.code yX0_comeHome cX0_comeHome 8 (some .int), Cond.methodLink RX0 63 yX0_isOpen, Cond.instanceMethod yX0_isOpen, Cond.selects RX0 yX0_isOpen yX0_isOpen, Cond.code yX0_isOpen cX0_isOpen 2 (some .boolean), Cond.static yX3_isHole, Cond.code yX3_isHole cX3_isHole 1 (some .boolean), Cond.methodLink RX0 92 yX0_enterOwnHole, Cond.instanceMethod yX0_enterOwnHole, Cond.selects RX0 yX0_enterOwnHole yX0_enterOwnHole, Cond.code yX0_enterOwnHole cX0_enterOwnHole 5 (some .int), Cond.methodLink RX0 86 yX0_exists, Cond.methodLink RX0 99 yX0_shiftFrom, Cond.instanceMethod yX0_shiftFrom, Cond.selects RX0 yX0_shiftFrom yX0_shiftFrom]
def wsX3_ifHome_r4 : List Cond := [Cond.code yX0_shiftFrom cX0_shiftFrom 4 (some .int), Cond.methodLink RX0 103 yX0_sit, Cond.instanceMethod yX0_sit, Cond.selects RX0 yX0_sit yX0_sit, Cond.code yX0_sit cX0_sit 3 none, Cond.methodLink RX0 113 yX2_note, Cond.instanceMethod yX2_note, Cond.selects RX2 yX2_note yX2_note, Cond.code yX2_note cX2_note 3 none, Cond.methodLink RX0 96 yX0_settle, Cond.instanceMethod yX0_settle, Cond.selects RX0 yX0_settle yX0_settle, Cond.code yX0_settle cX0_settle 6 (some .int), Cond.methodLink RX0 107 yX0_firstFreeFor, Cond.instanceMethod yX0_firstFreeFor, Cond.selects RX0 yX0_firstFreeFor yX0_firstFreeFor, Cond.code yX0_firstFreeFor cX0_firstFreeFor 6 (some .int), Cond.methodLink RX0 110 yX0_isFree, Cond.instanceMethod yX0_isFree, Cond.selects RX0 yX0_isFree yX0_isFree, Cond.code yX0_isFree cX0_isFree 2 (some .boolean), Cond.methodLink RX3 205 yX3_trialNumber, Cond.instanceMethod yX3_trialNumber, Cond.selects RX3 yX3_trialNumber yX3_trialNumber]
def wsX3_ifHome_r5 : List Cond := [Cond.code yX3_trialNumber cX3_trialNumber 3 (some .int), Cond.methodLink RX3 296 yX0_placedAt, Cond.instanceMethod yX0_placedAt, Cond.selects RX0 yX0_placedAt yX0_placedAt, Cond.code yX0_placedAt cX0_placedAt 4 (some .int)]
def wsX3_ifHome : List Cond := .code yX3_ifHome cX3_ifHome 4 (some .int) :: ((wsX3_ifHome_r1 ++ (wsX3_ifHome_r2 ++ (wsX3_ifHome_r3 ++ (wsX3_ifHome_r4 ++ wsX3_ifHome_r5)))) ++ wsX30 ++ wsX00 ++ wsX20 ++ (vx_atS RX3 56 "java/lang/IllegalArgumentException" ["java/lang/RuntimeException", "java/lang/Exception"]).filter goodWord ++ (vx_atS RX3 109 "java/lang/IndexOutOfBoundsException" ["java/lang/RuntimeException", "java/lang/Exception"]).filter goodWord)
def wsX3_freeHole : List Cond := .code yX3_freeHole cX3_freeHole 2 (some .int) :: ([.fieldLink RX3 10 "LateDoves" "now" "LLateDoves$Cote;", .methodLink RX3 208 yX0_isOpen, .instanceMethod yX0_isOpen, .selects RX0 yX0_isOpen yX0_isOpen, .initialized RX0, .code yX0_isOpen cX0_isOpen 2 (some .boolean), .fieldLink RX0 16 "LateDoves$Cote" "holes" "[[I", .static yX3_isHole, .initialized RX3, .code yX3_isHole cX3_isHole 1 (some .boolean)] ++ wsX30 ++ wsX00)
def wsX3_sittingIfAllCame_r1 : List Cond := [Cond.fieldLink RX3 16 "LateDoves" "trial" "LLateDoves$Cote;", Cond.fieldLink RX3 10 "LateDoves" "now" "LLateDoves$Cote;", Cond.methodLink RX3 159 yX0_copyFrom, Cond.instanceMethod yX0_copyFrom, Cond.selects RX0 yX0_copyFrom yX0_copyFrom, Cond.initialized RX0, Cond.code yX0_copyFrom cX0_copyFrom 3 none, Cond.fieldLink RX0 11 "LateDoves$Cote" "doves" "[[I", Cond.methodLink RX0 36 arraycopyName, Cond.native arraycopyName, Cond.static arraycopyName, Cond.initialized "java/lang/System", Cond.fieldLink RX0 16 "LateDoves$Cote" "holes" "[[I", Cond.fieldLink RX0 19 "LateDoves$Cote" "settings" "[I", Cond.fieldLink RX0 23 "LateDoves$Cote" "atDawn" "[I", Cond.fieldLink RX0 26 "LateDoves$Cote" "stop" "[I", Cond.fieldLink RX0 32 "LateDoves$Cote" "way" "LLateDoves$Way;", Cond.fieldLink RX0 46 "LateDoves$Cote" "day" "I", Cond.fieldLink RX0 50 "LateDoves$Cote" "time" "I", Cond.fieldLink RX0 53 "LateDoves$Cote" "shifts" "I", Cond.fieldLink RX0 56 "LateDoves$Cote" "quarrels" "I", Cond.methodLink RX0 42 yX2_copyFrom, Cond.instanceMethod yX2_copyFrom, Cond.selects RX2 yX2_copyFrom yX2_copyFrom]
def wsX3_sittingIfAllCame_r2 : List Cond := [Cond.initialized RX2, Cond.code yX2_copyFrom cX2_copyFrom 2 none, Cond.fieldLink RX2 9 "LateDoves$Way" "who" "[I", Cond.methodLink RX2 22 arraycopyName, Cond.fieldLink RX2 15 "LateDoves$Way" "where" "[I", Cond.fieldLink RX2 18 "LateDoves$Way" "size" "I", Cond.methodLink RX3 232 yX0_exists, Cond.instanceMethod yX0_exists, Cond.selects RX0 yX0_exists yX0_exists, Cond.code yX0_exists cX0_exists 2 (some .boolean), Cond.methodLink RX3 123 yX0_comeHome, Cond.instanceMethod yX0_comeHome, Cond.selects RX0 yX0_comeHome yX0_comeHome, Cond.code yX0_comeHome cX0_comeHome 8 (some .int), Cond.methodLink RX0 63 yX0_isOpen, Cond.instanceMethod yX0_isOpen, Cond.selects RX0 yX0_isOpen yX0_isOpen, Cond.code yX0_isOpen cX0_isOpen 2 (some .boolean), Cond.static yX3_isHole, Cond.initialized RX3, Cond.code yX3_isHole cX3_isHole 1 (some .boolean), Cond.methodLink RX0 92 yX0_enterOwnHole, Cond.instanceMethod yX0_enterOwnHole, Cond.selects RX0 yX0_enterOwnHole yX0_enterOwnHole]
def wsX3_sittingIfAllCame_r3 : List Cond := [Cond.code yX0_enterOwnHole cX0_enterOwnHole 5 (some .int), Cond.methodLink RX0 86 yX0_exists, Cond.methodLink RX0 99 yX0_shiftFrom, Cond.instanceMethod yX0_shiftFrom, Cond.selects RX0 yX0_shiftFrom yX0_shiftFrom, Cond.code yX0_shiftFrom cX0_shiftFrom 4 (some .int), Cond.methodLink RX0 103 yX0_sit, Cond.instanceMethod yX0_sit, Cond.selects RX0 yX0_sit yX0_sit, Cond.code yX0_sit cX0_sit 3 none, Cond.methodLink RX0 113 yX2_note, Cond.instanceMethod yX2_note, Cond.selects RX2 yX2_note yX2_note, Cond.code yX2_note cX2_note 3 none, Cond.methodLink RX0 96 yX0_settle, Cond.instanceMethod yX0_settle, Cond.selects RX0 yX0_settle yX0_settle, Cond.code yX0_settle cX0_settle 6 (some .int), Cond.methodLink RX0 107 yX0_firstFreeFor, Cond.instanceMethod yX0_firstFreeFor, Cond.selects RX0 yX0_firstFreeFor yX0_firstFreeFor, Cond.code yX0_firstFreeFor cX0_firstFreeFor 6 (some .int), Cond.methodLink RX0 110 yX0_isFree, Cond.instanceMethod yX0_isFree]
def wsX3_sittingIfAllCame_r4 : List Cond := [Cond.selects RX0 yX0_isFree yX0_isFree, Cond.code yX0_isFree cX0_isFree 2 (some .boolean), Cond.methodLink RX3 299 yX0_sittingByDoves, Cond.instanceMethod yX0_sittingByDoves, Cond.selects RX0 yX0_sittingByDoves yX0_sittingByDoves, Cond.code yX0_sittingByDoves cX0_sittingByDoves 1 (some .int), Cond.methodLink RX0 66 yX0_doveCount, Cond.instanceMethod yX0_doveCount, Cond.selects RX0 yX0_doveCount yX0_doveCount, Cond.code yX0_doveCount cX0_doveCount 3 (some .int), Cond.methodLink RX0 76 yX0_placedAt, Cond.instanceMethod yX0_placedAt, Cond.selects RX0 yX0_placedAt yX0_placedAt, Cond.code yX0_placedAt cX0_placedAt 4 (some .int)]
def wsX3_sittingIfAllCame : List Cond := .code yX3_sittingIfAllCame cX3_sittingIfAllCame 3 (some .int) :: ((wsX3_sittingIfAllCame_r1 ++ (wsX3_sittingIfAllCame_r2 ++ (wsX3_sittingIfAllCame_r3 ++ wsX3_sittingIfAllCame_r4))) ++ wsX30 ++ wsX00 ++ wsX20)
def wsX3_lateIsAsGood_r1 : List Cond := [Cond.fieldLink RX3 10 "LateDoves" "now" "LLateDoves$Cote;", Cond.methodLink RX3 211 yX3_sittingIfAllCame, Cond.instanceMethod yX3_sittingIfAllCame, Cond.selects RX3 yX3_sittingIfAllCame yX3_sittingIfAllCame, Cond.initialized RX3, Cond.code yX3_sittingIfAllCame cX3_sittingIfAllCame 3 (some .int), Cond.fieldLink RX3 16 "LateDoves" "trial" "LLateDoves$Cote;", Cond.methodLink RX3 159 yX0_copyFrom, Cond.instanceMethod yX0_copyFrom, Cond.selects RX0 yX0_copyFrom yX0_copyFrom, Cond.initialized RX0, Cond.code yX0_copyFrom cX0_copyFrom 3 none, Cond.fieldLink RX0 11 "LateDoves$Cote" "doves" "[[I", Cond.methodLink RX0 36 arraycopyName, Cond.native arraycopyName, Cond.static arraycopyName, Cond.initialized "java/lang/System", Cond.fieldLink RX0 16 "LateDoves$Cote" "holes" "[[I", Cond.fieldLink RX0 19 "LateDoves$Cote" "settings" "[I", Cond.fieldLink RX0 23 "LateDoves$Cote" "atDawn" "[I", Cond.fieldLink RX0 26 "LateDoves$Cote" "stop" "[I", Cond.fieldLink RX0 32 "LateDoves$Cote" "way" "LLateDoves$Way;", Cond.fieldLink RX0 46 "LateDoves$Cote" "day" "I", Cond.fieldLink RX0 50 "LateDoves$Cote" "time" "I"]
def wsX3_lateIsAsGood_r2 : List Cond := [Cond.fieldLink RX0 53 "LateDoves$Cote" "shifts" "I", Cond.fieldLink RX0 56 "LateDoves$Cote" "quarrels" "I", Cond.methodLink RX0 42 yX2_copyFrom, Cond.instanceMethod yX2_copyFrom, Cond.selects RX2 yX2_copyFrom yX2_copyFrom, Cond.initialized RX2, Cond.code yX2_copyFrom cX2_copyFrom 2 none, Cond.fieldLink RX2 9 "LateDoves$Way" "who" "[I", Cond.methodLink RX2 22 arraycopyName, Cond.fieldLink RX2 15 "LateDoves$Way" "where" "[I", Cond.fieldLink RX2 18 "LateDoves$Way" "size" "I", Cond.methodLink RX3 232 yX0_exists, Cond.instanceMethod yX0_exists, Cond.selects RX0 yX0_exists yX0_exists, Cond.code yX0_exists cX0_exists 2 (some .boolean), Cond.methodLink RX3 123 yX0_comeHome, Cond.instanceMethod yX0_comeHome, Cond.selects RX0 yX0_comeHome yX0_comeHome, Cond.code yX0_comeHome cX0_comeHome 8 (some .int), Cond.methodLink RX0 63 yX0_isOpen, Cond.instanceMethod yX0_isOpen, Cond.selects RX0 yX0_isOpen yX0_isOpen, Cond.code yX0_isOpen cX0_isOpen 2 (some .boolean), Cond.static yX3_isHole]
def wsX3_lateIsAsGood_r3 : List Cond := [Cond.code yX3_isHole cX3_isHole 1 (some .boolean), Cond.methodLink RX0 92 yX0_enterOwnHole, Cond.instanceMethod yX0_enterOwnHole, Cond.selects RX0 yX0_enterOwnHole yX0_enterOwnHole, Cond.code yX0_enterOwnHole cX0_enterOwnHole 5 (some .int), Cond.methodLink RX0 86 yX0_exists, Cond.methodLink RX0 99 yX0_shiftFrom, Cond.instanceMethod yX0_shiftFrom, Cond.selects RX0 yX0_shiftFrom yX0_shiftFrom, Cond.code yX0_shiftFrom cX0_shiftFrom 4 (some .int), Cond.methodLink RX0 103 yX0_sit, Cond.instanceMethod yX0_sit, Cond.selects RX0 yX0_sit yX0_sit, Cond.code yX0_sit cX0_sit 3 none, Cond.methodLink RX0 113 yX2_note, Cond.instanceMethod yX2_note, Cond.selects RX2 yX2_note yX2_note, Cond.code yX2_note cX2_note 3 none, Cond.methodLink RX0 96 yX0_settle, Cond.instanceMethod yX0_settle, Cond.selects RX0 yX0_settle yX0_settle, Cond.code yX0_settle cX0_settle 6 (some .int), Cond.methodLink RX0 107 yX0_firstFreeFor, Cond.instanceMethod yX0_firstFreeFor]
def wsX3_lateIsAsGood_r4 : List Cond := [Cond.selects RX0 yX0_firstFreeFor yX0_firstFreeFor, Cond.code yX0_firstFreeFor cX0_firstFreeFor 6 (some .int), Cond.methodLink RX0 110 yX0_isFree, Cond.instanceMethod yX0_isFree, Cond.selects RX0 yX0_isFree yX0_isFree, Cond.code yX0_isFree cX0_isFree 2 (some .boolean), Cond.methodLink RX3 299 yX0_sittingByDoves, Cond.instanceMethod yX0_sittingByDoves, Cond.selects RX0 yX0_sittingByDoves yX0_sittingByDoves, Cond.code yX0_sittingByDoves cX0_sittingByDoves 1 (some .int), Cond.methodLink RX0 66 yX0_doveCount, Cond.instanceMethod yX0_doveCount, Cond.selects RX0 yX0_doveCount yX0_doveCount, Cond.code yX0_doveCount cX0_doveCount 3 (some .int), Cond.methodLink RX0 76 yX0_placedAt, Cond.instanceMethod yX0_placedAt, Cond.selects RX0 yX0_placedAt yX0_placedAt, Cond.code yX0_placedAt cX0_placedAt 4 (some .int)]
def wsX3_lateIsAsGood : List Cond := .code yX3_lateIsAsGood cX3_lateIsAsGood 1 (some .int) :: ((wsX3_lateIsAsGood_r1 ++ (wsX3_lateIsAsGood_r2 ++ (wsX3_lateIsAsGood_r3 ++ wsX3_lateIsAsGood_r4))) ++ wsX30 ++ wsX00 ++ wsX20)
def wsX3_homeShare : List Cond := .code yX3_homeShare cX3_homeShare 2 (some .double) :: ([.fieldLink RX3 10 "LateDoves" "now" "LLateDoves$Cote;", .methodLink RX3 217 yX0_doveCount, .instanceMethod yX0_doveCount, .selects RX0 yX0_doveCount yX0_doveCount, .initialized RX0, .code yX0_doveCount cX0_doveCount 3 (some .int), .methodLink RX0 86 yX0_exists, .instanceMethod yX0_exists, .selects RX0 yX0_exists yX0_exists, .code yX0_exists cX0_exists 2 (some .boolean), .fieldLink RX0 11 "LateDoves$Cote" "doves" "[[I", .methodLink RX3 220 yX0_inOwnHoles, .instanceMethod yX0_inOwnHoles, .selects RX0 yX0_inOwnHoles yX0_inOwnHoles, .code yX0_inOwnHoles cX0_inOwnHoles 3 (some .int)] ++ wsX30 ++ wsX00)
def wsX3_mix : List Cond := .code yX3_mix cX3_mix 4 (some .long) :: ([.constantLong RX3 302 (31)])
def wsX3_mixDove_r1 : List Cond := [Cond.fieldLink RX3 10 "LateDoves" "now" "LLateDoves$Cote;", Cond.constantLong RX3 304 (-1), Cond.methodLink RX3 228 yX3_mix, Cond.static yX3_mix, Cond.initialized RX3, Cond.code yX3_mix cX3_mix 4 (some .long), Cond.constantLong RX3 302 (31), Cond.methodLink RX3 118 yX0_reasonNotHome, Cond.instanceMethod yX0_reasonNotHome, Cond.selects RX0 yX0_reasonNotHome yX0_reasonNotHome, Cond.initialized RX0, Cond.code yX0_reasonNotHome cX0_reasonNotHome 3 (some .int), Cond.fieldLink RX0 11 "LateDoves$Cote" "doves" "[[I", Cond.fieldLink RX0 50 "LateDoves$Cote" "time" "I", Cond.methodLink RX3 201 yX3_tryHome, Cond.instanceMethod yX3_tryHome, Cond.selects RX3 yX3_tryHome yX3_tryHome, Cond.code yX3_tryHome cX3_tryHome 3 (some .boolean), Cond.fieldLink RX3 16 "LateDoves" "trial" "LLateDoves$Cote;", Cond.methodLink RX3 159 yX0_copyFrom, Cond.instanceMethod yX0_copyFrom, Cond.selects RX0 yX0_copyFrom yX0_copyFrom, Cond.code yX0_copyFrom cX0_copyFrom 3 none, Cond.methodLink RX0 36 arraycopyName]
def wsX3_mixDove_r2 : List Cond := [Cond.native arraycopyName, Cond.static arraycopyName, Cond.initialized "java/lang/System", Cond.fieldLink RX0 16 "LateDoves$Cote" "holes" "[[I", Cond.fieldLink RX0 19 "LateDoves$Cote" "settings" "[I", Cond.fieldLink RX0 23 "LateDoves$Cote" "atDawn" "[I", Cond.fieldLink RX0 26 "LateDoves$Cote" "stop" "[I", Cond.fieldLink RX0 32 "LateDoves$Cote" "way" "LLateDoves$Way;", Cond.fieldLink RX0 46 "LateDoves$Cote" "day" "I", Cond.fieldLink RX0 53 "LateDoves$Cote" "shifts" "I", Cond.fieldLink RX0 56 "LateDoves$Cote" "quarrels" "I", Cond.methodLink RX0 42 yX2_copyFrom, Cond.instanceMethod yX2_copyFrom, Cond.selects RX2 yX2_copyFrom yX2_copyFrom, Cond.initialized RX2, Cond.code yX2_copyFrom cX2_copyFrom 2 none, Cond.fieldLink RX2 9 "LateDoves$Way" "who" "[I", Cond.methodLink RX2 22 arraycopyName, Cond.fieldLink RX2 15 "LateDoves$Way" "where" "[I", Cond.fieldLink RX2 18 "LateDoves$Way" "size" "I", Cond.methodLink RX3 123 yX0_comeHome, Cond.instanceMethod yX0_comeHome, Cond.selects RX0 yX0_comeHome yX0_comeHome, Cond.code yX0_comeHome cX0_comeHome 8 (some .int)]
def wsX3_mixDove_r3 : List Cond := [Cond.methodLink RX0 63 yX0_isOpen, Cond.instanceMethod yX0_isOpen, Cond.selects RX0 yX0_isOpen yX0_isOpen, Cond.code yX0_isOpen cX0_isOpen 2 (some .boolean), Cond.static yX3_isHole, Cond.code yX3_isHole cX3_isHole 1 (some .boolean), Cond.methodLink RX0 92 yX0_enterOwnHole, Cond.instanceMethod yX0_enterOwnHole, Cond.selects RX0 yX0_enterOwnHole yX0_enterOwnHole, Cond.code yX0_enterOwnHole cX0_enterOwnHole 5 (some .int), Cond.methodLink RX0 86 yX0_exists, Cond.instanceMethod yX0_exists, Cond.selects RX0 yX0_exists yX0_exists, Cond.code yX0_exists cX0_exists 2 (some .boolean), Cond.methodLink RX0 99 yX0_shiftFrom, Cond.instanceMethod yX0_shiftFrom, Cond.selects RX0 yX0_shiftFrom yX0_shiftFrom, Cond.code yX0_shiftFrom cX0_shiftFrom 4 (some .int), Cond.methodLink RX0 103 yX0_sit, Cond.instanceMethod yX0_sit, Cond.selects RX0 yX0_sit yX0_sit, Cond.code yX0_sit cX0_sit 3 none, Cond.methodLink RX0 113 yX2_note, Cond.instanceMethod yX2_note]
def wsX3_mixDove_r4 : List Cond := [Cond.selects RX2 yX2_note yX2_note, Cond.code yX2_note cX2_note 3 none, Cond.methodLink RX0 96 yX0_settle, Cond.instanceMethod yX0_settle, Cond.selects RX0 yX0_settle yX0_settle, Cond.code yX0_settle cX0_settle 6 (some .int), Cond.methodLink RX0 107 yX0_firstFreeFor, Cond.instanceMethod yX0_firstFreeFor, Cond.selects RX0 yX0_firstFreeFor yX0_firstFreeFor, Cond.code yX0_firstFreeFor cX0_firstFreeFor 6 (some .int), Cond.methodLink RX0 110 yX0_isFree, Cond.instanceMethod yX0_isFree, Cond.selects RX0 yX0_isFree yX0_isFree, Cond.code yX0_isFree cX0_isFree 2 (some .boolean), Cond.methodLink RX3 205 yX3_trialNumber, Cond.instanceMethod yX3_trialNumber, Cond.selects RX3 yX3_trialNumber yX3_trialNumber, Cond.code yX3_trialNumber cX3_trialNumber 3 (some .int), Cond.methodLink RX3 296 yX0_placedAt, Cond.instanceMethod yX0_placedAt, Cond.selects RX0 yX0_placedAt yX0_placedAt, Cond.code yX0_placedAt cX0_placedAt 4 (some .int)]
def wsX3_mixDove : List Cond := .code yX3_mixDove cX3_mixDove 8 (some .long) :: ((wsX3_mixDove_r1 ++ (wsX3_mixDove_r2 ++ (wsX3_mixDove_r3 ++ wsX3_mixDove_r4))) ++ wsX30 ++ wsX00 ++ wsX20)
def wsX3_mixWay : List Cond := .code yX3_mixWay cX3_mixWay 6 (some .long) :: ([.fieldLink RX3 10 "LateDoves" "now" "LLateDoves$Cote;", .methodLink RX3 228 yX3_mix, .static yX3_mix, .initialized RX3, .code yX3_mix cX3_mix 4 (some .long), .constantLong RX3 302 (31)] ++ wsX30 ++ wsX00 ++ wsX20)
def wsX3_bitsOfShare : List Cond := .code yX3_bitsOfShare cX3_bitsOfShare 8 (some .long) :: ([.constantLong RX3 306 (1023), .constantDouble RX3 308 (4611686018427387904), .constantDouble RX3 310 (4841369599423283200)])
def wsX3_digest_r1 : List Cond := [Cond.constantLong RX3 223 (3889), Cond.fieldLink RX3 10 "LateDoves" "now" "LLateDoves$Cote;", Cond.fieldLink RX3 38 "LateDoves" "length" "I", Cond.fieldLink RX3 34 "LateDoves" "buffer" "[I", Cond.methodLink RX3 225 yX3_count, Cond.instanceMethod yX3_count, Cond.selects RX3 yX3_count yX3_count, Cond.initialized RX3, Cond.code yX3_count cX3_count 2 (some .int), Cond.classLink RX3 52 "java/lang/IllegalArgumentException", Cond.initialized "java/lang/IllegalArgumentException", Cond.fieldLink RX3 30 "LateDoves" "savedCount" "I", Cond.methodLink RX3 181 yX0_numberOf, Cond.instanceMethod yX0_numberOf, Cond.selects RX0 yX0_numberOf yX0_numberOf, Cond.initialized RX0, Cond.code yX0_numberOf cX0_numberOf 2 (some .int), Cond.fieldLink RX0 46 "LateDoves$Cote" "day" "I", Cond.fieldLink RX0 50 "LateDoves$Cote" "time" "I", Cond.fieldLink RX0 53 "LateDoves$Cote" "shifts" "I", Cond.fieldLink RX0 56 "LateDoves$Cote" "quarrels" "I", Cond.fieldLink RX0 23 "LateDoves$Cote" "atDawn" "[I", Cond.fieldLink RX0 19 "LateDoves$Cote" "settings" "[I", Cond.methodLink RX0 66 yX0_doveCount]
def wsX3_digest_r2 : List Cond := [Cond.instanceMethod yX0_doveCount, Cond.selects RX0 yX0_doveCount yX0_doveCount, Cond.code yX0_doveCount cX0_doveCount 3 (some .int), Cond.methodLink RX0 86 yX0_exists, Cond.instanceMethod yX0_exists, Cond.selects RX0 yX0_exists yX0_exists, Cond.code yX0_exists cX0_exists 2 (some .boolean), Cond.fieldLink RX0 11 "LateDoves$Cote" "doves" "[[I", Cond.methodLink RX0 70 yX0_sittingByDoves, Cond.instanceMethod yX0_sittingByDoves, Cond.selects RX0 yX0_sittingByDoves yX0_sittingByDoves, Cond.code yX0_sittingByDoves cX0_sittingByDoves 1 (some .int), Cond.methodLink RX0 76 yX0_placedAt, Cond.instanceMethod yX0_placedAt, Cond.selects RX0 yX0_placedAt yX0_placedAt, Cond.code yX0_placedAt cX0_placedAt 4 (some .int), Cond.methodLink RX0 73 yX0_sittingByHoles, Cond.instanceMethod yX0_sittingByHoles, Cond.selects RX0 yX0_sittingByHoles yX0_sittingByHoles, Cond.code yX0_sittingByHoles cX0_sittingByHoles 3 (some .int), Cond.fieldLink RX0 16 "LateDoves$Cote" "holes" "[[I", Cond.methodLink RX0 80 yX0_openHoles, Cond.instanceMethod yX0_openHoles, Cond.selects RX0 yX0_openHoles yX0_openHoles]
def wsX3_digest_r3 : List Cond := [Cond.code yX0_openHoles cX0_openHoles 3 (some .int), Cond.methodLink RX0 63 yX0_isOpen, Cond.instanceMethod yX0_isOpen, Cond.selects RX0 yX0_isOpen yX0_isOpen, Cond.code yX0_isOpen cX0_isOpen 2 (some .boolean), Cond.static yX3_isHole, Cond.code yX3_isHole cX3_isHole 1 (some .boolean), Cond.methodLink RX0 83 yX0_pairs, Cond.instanceMethod yX0_pairs, Cond.selects RX0 yX0_pairs yX0_pairs, Cond.code yX0_pairs cX0_pairs 3 (some .int), Cond.methodLink RX3 228 yX3_mix, Cond.static yX3_mix, Cond.code yX3_mix cX3_mix 4 (some .long), Cond.constantLong RX3 302 (31), Cond.methodLink RX3 232 yX0_exists, Cond.methodLink RX3 235 yX3_mixDove, Cond.instanceMethod yX3_mixDove, Cond.selects RX3 yX3_mixDove yX3_mixDove, Cond.code yX3_mixDove cX3_mixDove 8 (some .long), Cond.constantLong RX3 304 (-1), Cond.methodLink RX3 118 yX0_reasonNotHome, Cond.instanceMethod yX0_reasonNotHome, Cond.selects RX0 yX0_reasonNotHome yX0_reasonNotHome]
def wsX3_digest_r4 : List Cond := [Cond.code yX0_reasonNotHome cX0_reasonNotHome 3 (some .int), Cond.methodLink RX3 201 yX3_tryHome, Cond.instanceMethod yX3_tryHome, Cond.selects RX3 yX3_tryHome yX3_tryHome, Cond.code yX3_tryHome cX3_tryHome 3 (some .boolean), Cond.fieldLink RX3 16 "LateDoves" "trial" "LLateDoves$Cote;", Cond.methodLink RX3 159 yX0_copyFrom, Cond.instanceMethod yX0_copyFrom, Cond.selects RX0 yX0_copyFrom yX0_copyFrom, Cond.code yX0_copyFrom cX0_copyFrom 3 none, Cond.methodLink RX0 36 arraycopyName, Cond.native arraycopyName, Cond.static arraycopyName, Cond.initialized "java/lang/System", Cond.fieldLink RX0 26 "LateDoves$Cote" "stop" "[I", Cond.fieldLink RX0 32 "LateDoves$Cote" "way" "LLateDoves$Way;", Cond.methodLink RX0 42 yX2_copyFrom, Cond.instanceMethod yX2_copyFrom, Cond.selects RX2 yX2_copyFrom yX2_copyFrom, Cond.initialized RX2, Cond.code yX2_copyFrom cX2_copyFrom 2 none, Cond.fieldLink RX2 9 "LateDoves$Way" "who" "[I", Cond.methodLink RX2 22 arraycopyName, Cond.fieldLink RX2 15 "LateDoves$Way" "where" "[I"]
def wsX3_digest_r5 : List Cond := [Cond.fieldLink RX2 18 "LateDoves$Way" "size" "I", Cond.methodLink RX3 123 yX0_comeHome, Cond.instanceMethod yX0_comeHome, Cond.selects RX0 yX0_comeHome yX0_comeHome, Cond.code yX0_comeHome cX0_comeHome 8 (some .int), Cond.methodLink RX0 92 yX0_enterOwnHole, Cond.instanceMethod yX0_enterOwnHole, Cond.selects RX0 yX0_enterOwnHole yX0_enterOwnHole, Cond.code yX0_enterOwnHole cX0_enterOwnHole 5 (some .int), Cond.methodLink RX0 99 yX0_shiftFrom, Cond.instanceMethod yX0_shiftFrom, Cond.selects RX0 yX0_shiftFrom yX0_shiftFrom, Cond.code yX0_shiftFrom cX0_shiftFrom 4 (some .int), Cond.methodLink RX0 103 yX0_sit, Cond.instanceMethod yX0_sit, Cond.selects RX0 yX0_sit yX0_sit, Cond.code yX0_sit cX0_sit 3 none, Cond.methodLink RX0 113 yX2_note, Cond.instanceMethod yX2_note, Cond.selects RX2 yX2_note yX2_note, Cond.code yX2_note cX2_note 3 none, Cond.methodLink RX0 96 yX0_settle, Cond.instanceMethod yX0_settle, Cond.selects RX0 yX0_settle yX0_settle]
def wsX3_digest_r6 : List Cond := [Cond.code yX0_settle cX0_settle 6 (some .int), Cond.methodLink RX0 107 yX0_firstFreeFor, Cond.instanceMethod yX0_firstFreeFor, Cond.selects RX0 yX0_firstFreeFor yX0_firstFreeFor, Cond.code yX0_firstFreeFor cX0_firstFreeFor 6 (some .int), Cond.methodLink RX0 110 yX0_isFree, Cond.instanceMethod yX0_isFree, Cond.selects RX0 yX0_isFree yX0_isFree, Cond.code yX0_isFree cX0_isFree 2 (some .boolean), Cond.methodLink RX3 205 yX3_trialNumber, Cond.instanceMethod yX3_trialNumber, Cond.selects RX3 yX3_trialNumber yX3_trialNumber, Cond.code yX3_trialNumber cX3_trialNumber 3 (some .int), Cond.methodLink RX3 296 yX0_placedAt, Cond.methodLink RX3 239 yX3_mixWay, Cond.instanceMethod yX3_mixWay, Cond.selects RX3 yX3_mixWay yX3_mixWay, Cond.code yX3_mixWay cX3_mixWay 6 (some .long), Cond.methodLink RX3 243 yX3_freeHole, Cond.instanceMethod yX3_freeHole, Cond.selects RX3 yX3_freeHole yX3_freeHole, Cond.code yX3_freeHole cX3_freeHole 2 (some .int), Cond.methodLink RX3 208 yX0_isOpen, Cond.methodLink RX3 246 yX3_lateIsAsGood]
def wsX3_digest_r7 : List Cond := [Cond.instanceMethod yX3_lateIsAsGood, Cond.selects RX3 yX3_lateIsAsGood yX3_lateIsAsGood, Cond.code yX3_lateIsAsGood cX3_lateIsAsGood 1 (some .int), Cond.methodLink RX3 211 yX3_sittingIfAllCame, Cond.instanceMethod yX3_sittingIfAllCame, Cond.selects RX3 yX3_sittingIfAllCame yX3_sittingIfAllCame, Cond.code yX3_sittingIfAllCame cX3_sittingIfAllCame 3 (some .int), Cond.methodLink RX3 299 yX0_sittingByDoves, Cond.methodLink RX3 249 yX3_homeShare, Cond.instanceMethod yX3_homeShare, Cond.selects RX3 yX3_homeShare yX3_homeShare, Cond.code yX3_homeShare cX3_homeShare 2 (some .double), Cond.methodLink RX3 217 yX0_doveCount, Cond.methodLink RX3 220 yX0_inOwnHoles, Cond.instanceMethod yX0_inOwnHoles, Cond.selects RX0 yX0_inOwnHoles yX0_inOwnHoles, Cond.code yX0_inOwnHoles cX0_inOwnHoles 3 (some .int), Cond.methodLink RX3 253 yX3_bitsOfShare, Cond.static yX3_bitsOfShare, Cond.code yX3_bitsOfShare cX3_bitsOfShare 8 (some .long), Cond.constantLong RX3 306 (1023), Cond.constantDouble RX3 308 (4611686018427387904), Cond.constantDouble RX3 310 (4841369599423283200)]
def wsX3_digest : List Cond := .code yX3_digest cX3_digest 5 (some .long) :: ((wsX3_digest_r1 ++ (wsX3_digest_r2 ++ (wsX3_digest_r3 ++ (wsX3_digest_r4 ++ (wsX3_digest_r5 ++ (wsX3_digest_r6 ++ wsX3_digest_r7)))))) ++ wsX30 ++ wsX00 ++ wsX20 ++ (vx_atS RX3 56 "java/lang/IllegalArgumentException" ["java/lang/RuntimeException", "java/lang/Exception"]).filter goodWord)
def wsX4_init : List Cond := .code yX4_init cX4_init 1 none :: ([.methodLink RX4 1 objectInit, .instanceMethod objectInit, .code objectInit ⟨#[0xb1]⟩ 1 none, .arrayClass .int, .fieldLink RX4 7 "LateDovesModel" "z" "[I", .fieldLink RX4 13 "LateDovesModel" "aside" "[I", .fieldLink RX4 16 "LateDovesModel" "saved" "[I", .fieldLink RX4 19 "LateDovesModel" "kept" "[I", .fieldLink RX4 22 "LateDovesModel" "text" "[I"] ++ wsX40)
def wsX4_thrown : List Cond := .code yX4_thrown cX4_thrown 1 (some .int) :: ([.fieldLink RX4 25 "LateDovesModel" "thrown" "I"] ++ wsX40)
def wsX4_in : List Cond := .code yX4_in cX4_in 3 (some .boolean) :: ([])
def wsX4_isHole : List Cond := .code yX4_isHole cX4_isHole 1 (some .boolean) :: ([.methodLink RX4 29 yX4_in, .static yX4_in, .initialized RX4, .code yX4_in cX4_in 3 (some .boolean)])
def wsX4_of : List Cond := .code yX4_of cX4_of 3 (some .int) :: ([.fieldLink RX4 7 "LateDovesModel" "z" "[I"] ++ wsX40)
def wsX4_put : List Cond := .code yX4_put cX4_put 4 none :: ([.fieldLink RX4 7 "LateDovesModel" "z" "[I"] ++ wsX40)
def wsX4_isDove : List Cond := .code yX4_isDove cX4_isDove 2 (some .boolean) :: ([.methodLink RX4 29 yX4_in, .static yX4_in, .initialized RX4, .code yX4_in cX4_in 3 (some .boolean), .methodLink RX4 33 yX4_of, .instanceMethod yX4_of, .selects RX4 yX4_of yX4_of, .code yX4_of cX4_of 3 (some .int), .fieldLink RX4 7 "LateDovesModel" "z" "[I"] ++ wsX40)
def wsX4_isOpen : List Cond := .code yX4_isOpen cX4_isOpen 2 (some .boolean) :: ([.fieldLink RX4 7 "LateDovesModel" "z" "[I"] ++ wsX40)
def wsX4_sitter : List Cond := .code yX4_sitter cX4_sitter 4 (some .int) :: ([.methodLink RX4 37 yX4_isDove, .instanceMethod yX4_isDove, .selects RX4 yX4_isDove yX4_isDove, .initialized RX4, .code yX4_isDove cX4_isDove 2 (some .boolean), .methodLink RX4 29 yX4_in, .static yX4_in, .code yX4_in cX4_in 3 (some .boolean), .methodLink RX4 33 yX4_of, .instanceMethod yX4_of, .selects RX4 yX4_of yX4_of, .code yX4_of cX4_of 3 (some .int), .fieldLink RX4 7 "LateDovesModel" "z" "[I"] ++ wsX40)
def wsX4_ownerOf : List Cond := .code yX4_ownerOf cX4_ownerOf 4 (some .int) :: ([.methodLink RX4 37 yX4_isDove, .instanceMethod yX4_isDove, .selects RX4 yX4_isDove yX4_isDove, .initialized RX4, .code yX4_isDove cX4_isDove 2 (some .boolean), .methodLink RX4 29 yX4_in, .static yX4_in, .code yX4_in cX4_in 3 (some .boolean), .methodLink RX4 33 yX4_of, .instanceMethod yX4_of, .selects RX4 yX4_of yX4_of, .code yX4_of cX4_of 3 (some .int), .fieldLink RX4 7 "LateDovesModel" "z" "[I"] ++ wsX40)
def wsX4_allDoves : List Cond := .code yX4_allDoves cX4_allDoves 3 (some .int) :: ([.methodLink RX4 33 yX4_of, .instanceMethod yX4_of, .selects RX4 yX4_of yX4_of, .initialized RX4, .code yX4_of cX4_of 3 (some .int), .fieldLink RX4 7 "LateDovesModel" "z" "[I"] ++ wsX40)
def wsX4_dovesAt : List Cond := .code yX4_dovesAt cX4_dovesAt 5 (some .int) :: ([.methodLink RX4 37 yX4_isDove, .instanceMethod yX4_isDove, .selects RX4 yX4_isDove yX4_isDove, .initialized RX4, .code yX4_isDove cX4_isDove 2 (some .boolean), .methodLink RX4 29 yX4_in, .static yX4_in, .code yX4_in cX4_in 3 (some .boolean), .methodLink RX4 33 yX4_of, .instanceMethod yX4_of, .selects RX4 yX4_of yX4_of, .code yX4_of cX4_of 3 (some .int), .fieldLink RX4 7 "LateDovesModel" "z" "[I"] ++ wsX40)
def wsX4_openHoles : List Cond := .code yX4_openHoles cX4_openHoles 3 (some .int) :: ([.methodLink RX4 41 yX4_isOpen, .instanceMethod yX4_isOpen, .selects RX4 yX4_isOpen yX4_isOpen, .initialized RX4, .code yX4_isOpen cX4_isOpen 2 (some .boolean), .fieldLink RX4 7 "LateDovesModel" "z" "[I"] ++ wsX40)
def wsX4_pairs : List Cond := .code yX4_pairs cX4_pairs 3 (some .int) :: ([.methodLink RX4 37 yX4_isDove, .instanceMethod yX4_isDove, .selects RX4 yX4_isDove yX4_isDove, .initialized RX4, .code yX4_isDove cX4_isDove 2 (some .boolean), .methodLink RX4 29 yX4_in, .static yX4_in, .code yX4_in cX4_in 3 (some .boolean), .methodLink RX4 33 yX4_of, .instanceMethod yX4_of, .selects RX4 yX4_of yX4_of, .code yX4_of cX4_of 3 (some .int), .fieldLink RX4 7 "LateDovesModel" "z" "[I"] ++ wsX40)
def wsX4_record : List Cond := .code yX4_record cX4_record 2 none :: ([.fieldLink RX4 44 "LateDovesModel" "saves" "I", .fieldLink RX4 16 "LateDovesModel" "saved" "[I", .fieldLink RX4 7 "LateDovesModel" "z" "[I"] ++ wsX40)
def wsX4_undo : List Cond := .code yX4_undo cX4_undo 2 (some .int) :: ([.fieldLink RX4 44 "LateDovesModel" "saves" "I", .fieldLink RX4 25 "LateDovesModel" "thrown" "I", .fieldLink RX4 7 "LateDovesModel" "z" "[I", .fieldLink RX4 16 "LateDovesModel" "saved" "[I"] ++ wsX40)
def wsX4_keep : List Cond := .code yX4_keep cX4_keep 2 (some .int) :: ([.fieldLink RX4 25 "LateDovesModel" "thrown" "I", .fieldLink RX4 19 "LateDovesModel" "kept" "[I", .fieldLink RX4 7 "LateDovesModel" "z" "[I", .fieldLink RX4 47 "LateDovesModel" "isKept" "Z"] ++ wsX40)
def wsX4_restore : List Cond := .code yX4_restore cX4_restore 2 (some .int) :: ([.fieldLink RX4 47 "LateDovesModel" "isKept" "Z", .fieldLink RX4 25 "LateDovesModel" "thrown" "I", .fieldLink RX4 7 "LateDovesModel" "z" "[I", .fieldLink RX4 19 "LateDovesModel" "kept" "[I", .methodLink RX4 51 yX4_record, .instanceMethod yX4_record, .selects RX4 yX4_record yX4_record, .initialized RX4, .code yX4_record cX4_record 2 none, .fieldLink RX4 44 "LateDovesModel" "saves" "I", .fieldLink RX4 16 "LateDovesModel" "saved" "[I"] ++ wsX40)
def wsX4_putAside : List Cond := .code yX4_putAside cX4_putAside 2 none :: ([.fieldLink RX4 13 "LateDovesModel" "aside" "[I", .fieldLink RX4 7 "LateDovesModel" "z" "[I"] ++ wsX40)
def wsX4_putBack : List Cond := .code yX4_putBack cX4_putBack 2 none :: ([.fieldLink RX4 7 "LateDovesModel" "z" "[I", .fieldLink RX4 13 "LateDovesModel" "aside" "[I"] ++ wsX40)
def wsX4_isFree : List Cond := .code yX4_isFree cX4_isFree 2 (some .boolean) :: ([.methodLink RX4 41 yX4_isOpen, .instanceMethod yX4_isOpen, .selects RX4 yX4_isOpen yX4_isOpen, .initialized RX4, .code yX4_isOpen cX4_isOpen 2 (some .boolean), .fieldLink RX4 7 "LateDovesModel" "z" "[I", .methodLink RX4 54 yX4_sitter, .instanceMethod yX4_sitter, .selects RX4 yX4_sitter yX4_sitter, .code yX4_sitter cX4_sitter 4 (some .int), .methodLink RX4 37 yX4_isDove, .instanceMethod yX4_isDove, .selects RX4 yX4_isDove yX4_isDove, .code yX4_isDove cX4_isDove 2 (some .boolean), .methodLink RX4 29 yX4_in, .static yX4_in, .code yX4_in cX4_in 3 (some .boolean), .methodLink RX4 33 yX4_of, .instanceMethod yX4_of, .selects RX4 yX4_of yX4_of, .code yX4_of cX4_of 3 (some .int)] ++ wsX40)
def wsX4_freeFor_r1 : List Cond := [Cond.methodLink RX4 33 yX4_of, Cond.instanceMethod yX4_of, Cond.selects RX4 yX4_of yX4_of, Cond.initialized RX4, Cond.code yX4_of cX4_of 3 (some .int), Cond.fieldLink RX4 7 "LateDovesModel" "z" "[I", Cond.methodLink RX4 29 yX4_in, Cond.static yX4_in, Cond.code yX4_in cX4_in 3 (some .boolean), Cond.methodLink RX4 58 yX4_isHole, Cond.static yX4_isHole, Cond.code yX4_isHole cX4_isHole 1 (some .boolean), Cond.methodLink RX4 61 yX4_isFree, Cond.instanceMethod yX4_isFree, Cond.selects RX4 yX4_isFree yX4_isFree, Cond.code yX4_isFree cX4_isFree 2 (some .boolean), Cond.methodLink RX4 41 yX4_isOpen, Cond.instanceMethod yX4_isOpen, Cond.selects RX4 yX4_isOpen yX4_isOpen, Cond.code yX4_isOpen cX4_isOpen 2 (some .boolean), Cond.methodLink RX4 54 yX4_sitter, Cond.instanceMethod yX4_sitter, Cond.selects RX4 yX4_sitter yX4_sitter, Cond.code yX4_sitter cX4_sitter 4 (some .int)]
def wsX4_freeFor_r2 : List Cond := [Cond.methodLink RX4 37 yX4_isDove, Cond.instanceMethod yX4_isDove, Cond.selects RX4 yX4_isDove yX4_isDove, Cond.code yX4_isDove cX4_isDove 2 (some .boolean)]
def wsX4_freeFor : List Cond := .code yX4_freeFor cX4_freeFor 5 (some .int) :: ((wsX4_freeFor_r1 ++ wsX4_freeFor_r2) ++ wsX40)
def wsX4_sit : List Cond := .code yX4_sit cX4_sit 3 none :: ([.fieldLink RX4 7 "LateDovesModel" "z" "[I", .methodLink RX4 64 yX4_put, .instanceMethod yX4_put, .selects RX4 yX4_put yX4_put, .initialized RX4, .code yX4_put cX4_put 4 none] ++ wsX40)
def wsX4_countShift : List Cond := .code yX4_countShift cX4_countShift 3 none :: ([.fieldLink RX4 7 "LateDovesModel" "z" "[I", .methodLink RX4 33 yX4_of, .instanceMethod yX4_of, .selects RX4 yX4_of yX4_of, .initialized RX4, .code yX4_of cX4_of 3 (some .int), .methodLink RX4 64 yX4_put, .instanceMethod yX4_put, .selects RX4 yX4_put yX4_put, .code yX4_put cX4_put 4 none] ++ wsX40)
def wsX4_doHome_r1 : List Cond := [Cond.fieldLink RX4 7 "LateDovesModel" "z" "[I", Cond.methodLink RX4 33 yX4_of, Cond.instanceMethod yX4_of, Cond.selects RX4 yX4_of yX4_of, Cond.initialized RX4, Cond.code yX4_of cX4_of 3 (some .int), Cond.methodLink RX4 64 yX4_put, Cond.instanceMethod yX4_put, Cond.selects RX4 yX4_put yX4_put, Cond.code yX4_put cX4_put 4 none, Cond.methodLink RX4 41 yX4_isOpen, Cond.instanceMethod yX4_isOpen, Cond.selects RX4 yX4_isOpen yX4_isOpen, Cond.code yX4_isOpen cX4_isOpen 2 (some .boolean), Cond.methodLink RX4 54 yX4_sitter, Cond.instanceMethod yX4_sitter, Cond.selects RX4 yX4_sitter yX4_sitter, Cond.code yX4_sitter cX4_sitter 4 (some .int), Cond.methodLink RX4 37 yX4_isDove, Cond.instanceMethod yX4_isDove, Cond.selects RX4 yX4_isDove yX4_isDove, Cond.code yX4_isDove cX4_isDove 2 (some .boolean), Cond.methodLink RX4 29 yX4_in, Cond.static yX4_in]
def wsX4_doHome_r2 : List Cond := [Cond.code yX4_in cX4_in 3 (some .boolean), Cond.methodLink RX4 68 yX4_countShift, Cond.instanceMethod yX4_countShift, Cond.selects RX4 yX4_countShift yX4_countShift, Cond.code yX4_countShift cX4_countShift 3 none, Cond.methodLink RX4 72 yX4_sit, Cond.instanceMethod yX4_sit, Cond.selects RX4 yX4_sit yX4_sit, Cond.code yX4_sit cX4_sit 3 none, Cond.methodLink RX4 75 yX4_freeFor, Cond.instanceMethod yX4_freeFor, Cond.selects RX4 yX4_freeFor yX4_freeFor, Cond.code yX4_freeFor cX4_freeFor 5 (some .int), Cond.methodLink RX4 58 yX4_isHole, Cond.static yX4_isHole, Cond.code yX4_isHole cX4_isHole 1 (some .boolean), Cond.methodLink RX4 61 yX4_isFree, Cond.instanceMethod yX4_isFree, Cond.selects RX4 yX4_isFree yX4_isFree, Cond.code yX4_isFree cX4_isFree 2 (some .boolean)]
def wsX4_doHome : List Cond := .code yX4_doHome cX4_doHome 10 (some .int) :: ((wsX4_doHome_r1 ++ wsX4_doHome_r2) ++ wsX40)
def wsX4_whyNoHome : List Cond := .code yX4_whyNoHome cX4_whyNoHome 3 (some .int) :: ([.fieldLink RX4 7 "LateDovesModel" "z" "[I", .methodLink RX4 33 yX4_of, .instanceMethod yX4_of, .selects RX4 yX4_of yX4_of, .initialized RX4, .code yX4_of cX4_of 3 (some .int)] ++ wsX40)
def wsX4_home_r1 : List Cond := [Cond.fieldLink RX4 25 "LateDovesModel" "thrown" "I", Cond.methodLink RX4 37 yX4_isDove, Cond.instanceMethod yX4_isDove, Cond.selects RX4 yX4_isDove yX4_isDove, Cond.initialized RX4, Cond.code yX4_isDove cX4_isDove 2 (some .boolean), Cond.methodLink RX4 29 yX4_in, Cond.static yX4_in, Cond.code yX4_in cX4_in 3 (some .boolean), Cond.methodLink RX4 33 yX4_of, Cond.instanceMethod yX4_of, Cond.selects RX4 yX4_of yX4_of, Cond.code yX4_of cX4_of 3 (some .int), Cond.fieldLink RX4 7 "LateDovesModel" "z" "[I", Cond.methodLink RX4 78 yX4_whyNoHome, Cond.instanceMethod yX4_whyNoHome, Cond.selects RX4 yX4_whyNoHome yX4_whyNoHome, Cond.code yX4_whyNoHome cX4_whyNoHome 3 (some .int), Cond.methodLink RX4 51 yX4_record, Cond.instanceMethod yX4_record, Cond.selects RX4 yX4_record yX4_record, Cond.code yX4_record cX4_record 2 none, Cond.fieldLink RX4 44 "LateDovesModel" "saves" "I", Cond.fieldLink RX4 16 "LateDovesModel" "saved" "[I"]
def wsX4_home_r2 : List Cond := [Cond.methodLink RX4 81 yX4_doHome, Cond.instanceMethod yX4_doHome, Cond.selects RX4 yX4_doHome yX4_doHome, Cond.code yX4_doHome cX4_doHome 10 (some .int), Cond.methodLink RX4 64 yX4_put, Cond.instanceMethod yX4_put, Cond.selects RX4 yX4_put yX4_put, Cond.code yX4_put cX4_put 4 none, Cond.methodLink RX4 41 yX4_isOpen, Cond.instanceMethod yX4_isOpen, Cond.selects RX4 yX4_isOpen yX4_isOpen, Cond.code yX4_isOpen cX4_isOpen 2 (some .boolean), Cond.methodLink RX4 54 yX4_sitter, Cond.instanceMethod yX4_sitter, Cond.selects RX4 yX4_sitter yX4_sitter, Cond.code yX4_sitter cX4_sitter 4 (some .int), Cond.methodLink RX4 68 yX4_countShift, Cond.instanceMethod yX4_countShift, Cond.selects RX4 yX4_countShift yX4_countShift, Cond.code yX4_countShift cX4_countShift 3 none, Cond.methodLink RX4 72 yX4_sit, Cond.instanceMethod yX4_sit, Cond.selects RX4 yX4_sit yX4_sit, Cond.code yX4_sit cX4_sit 3 none]
def wsX4_home_r3 : List Cond := [Cond.methodLink RX4 75 yX4_freeFor, Cond.instanceMethod yX4_freeFor, Cond.selects RX4 yX4_freeFor yX4_freeFor, Cond.code yX4_freeFor cX4_freeFor 5 (some .int), Cond.methodLink RX4 58 yX4_isHole, Cond.static yX4_isHole, Cond.code yX4_isHole cX4_isHole 1 (some .boolean), Cond.methodLink RX4 61 yX4_isFree, Cond.instanceMethod yX4_isFree, Cond.selects RX4 yX4_isFree yX4_isFree, Cond.code yX4_isFree cX4_isFree 2 (some .boolean)]
def wsX4_home : List Cond := .code yX4_home cX4_home 3 (some .int) :: ((wsX4_home_r1 ++ (wsX4_home_r2 ++ wsX4_home_r3)) ++ wsX40)
def wsX4_doDawn : List Cond := .code yX4_doDawn cX4_doDawn 5 (some .int) :: ([.fieldLink RX4 7 "LateDovesModel" "z" "[I", .methodLink RX4 84 yX4_dovesAt, .instanceMethod yX4_dovesAt, .selects RX4 yX4_dovesAt yX4_dovesAt, .initialized RX4, .code yX4_dovesAt cX4_dovesAt 5 (some .int), .methodLink RX4 37 yX4_isDove, .instanceMethod yX4_isDove, .selects RX4 yX4_isDove yX4_isDove, .code yX4_isDove cX4_isDove 2 (some .boolean), .methodLink RX4 29 yX4_in, .static yX4_in, .code yX4_in cX4_in 3 (some .boolean), .methodLink RX4 33 yX4_of, .instanceMethod yX4_of, .selects RX4 yX4_of yX4_of, .code yX4_of cX4_of 3 (some .int), .methodLink RX4 64 yX4_put, .instanceMethod yX4_put, .selects RX4 yX4_put yX4_put, .code yX4_put cX4_put 4 none] ++ wsX40)
def wsX4_dawn_r1 : List Cond := [Cond.fieldLink RX4 25 "LateDovesModel" "thrown" "I", Cond.methodLink RX4 51 yX4_record, Cond.instanceMethod yX4_record, Cond.selects RX4 yX4_record yX4_record, Cond.initialized RX4, Cond.code yX4_record cX4_record 2 none, Cond.fieldLink RX4 44 "LateDovesModel" "saves" "I", Cond.fieldLink RX4 16 "LateDovesModel" "saved" "[I", Cond.fieldLink RX4 7 "LateDovesModel" "z" "[I", Cond.methodLink RX4 87 yX4_doDawn, Cond.instanceMethod yX4_doDawn, Cond.selects RX4 yX4_doDawn yX4_doDawn, Cond.code yX4_doDawn cX4_doDawn 5 (some .int), Cond.methodLink RX4 84 yX4_dovesAt, Cond.instanceMethod yX4_dovesAt, Cond.selects RX4 yX4_dovesAt yX4_dovesAt, Cond.code yX4_dovesAt cX4_dovesAt 5 (some .int), Cond.methodLink RX4 37 yX4_isDove, Cond.instanceMethod yX4_isDove, Cond.selects RX4 yX4_isDove yX4_isDove, Cond.code yX4_isDove cX4_isDove 2 (some .boolean), Cond.methodLink RX4 29 yX4_in, Cond.static yX4_in, Cond.code yX4_in cX4_in 3 (some .boolean)]
def wsX4_dawn_r2 : List Cond := [Cond.methodLink RX4 33 yX4_of, Cond.instanceMethod yX4_of, Cond.selects RX4 yX4_of yX4_of, Cond.code yX4_of cX4_of 3 (some .int), Cond.methodLink RX4 64 yX4_put, Cond.instanceMethod yX4_put, Cond.selects RX4 yX4_put yX4_put, Cond.code yX4_put cX4_put 4 none]
def wsX4_dawn : List Cond := .code yX4_dawn cX4_dawn 1 (some .int) :: ((wsX4_dawn_r1 ++ wsX4_dawn_r2) ++ wsX40)
def wsX4_whyNoDove_r1 : List Cond := [Cond.methodLink RX4 91 yX4_allDoves, Cond.instanceMethod yX4_allDoves, Cond.selects RX4 yX4_allDoves yX4_allDoves, Cond.initialized RX4, Cond.code yX4_allDoves cX4_allDoves 3 (some .int), Cond.methodLink RX4 33 yX4_of, Cond.instanceMethod yX4_of, Cond.selects RX4 yX4_of yX4_of, Cond.code yX4_of cX4_of 3 (some .int), Cond.fieldLink RX4 7 "LateDovesModel" "z" "[I", Cond.methodLink RX4 94 yX4_ownerOf, Cond.instanceMethod yX4_ownerOf, Cond.selects RX4 yX4_ownerOf yX4_ownerOf, Cond.code yX4_ownerOf cX4_ownerOf 4 (some .int), Cond.methodLink RX4 37 yX4_isDove, Cond.instanceMethod yX4_isDove, Cond.selects RX4 yX4_isDove yX4_isDove, Cond.code yX4_isDove cX4_isDove 2 (some .boolean), Cond.methodLink RX4 29 yX4_in, Cond.static yX4_in, Cond.code yX4_in cX4_in 3 (some .boolean), Cond.methodLink RX4 41 yX4_isOpen, Cond.instanceMethod yX4_isOpen, Cond.selects RX4 yX4_isOpen yX4_isOpen]
def wsX4_whyNoDove_r2 : List Cond := [Cond.code yX4_isOpen cX4_isOpen 2 (some .boolean)]
def wsX4_whyNoDove : List Cond := .code yX4_whyNoDove cX4_whyNoDove 2 (some .int) :: ((wsX4_whyNoDove_r1 ++ wsX4_whyNoDove_r2) ++ wsX40)
def wsX4_doBuy : List Cond := .code yX4_doBuy cX4_doBuy 5 (some .int) :: ([.methodLink RX4 37 yX4_isDove, .instanceMethod yX4_isDove, .selects RX4 yX4_isDove yX4_isDove, .initialized RX4, .code yX4_isDove cX4_isDove 2 (some .boolean), .methodLink RX4 29 yX4_in, .static yX4_in, .code yX4_in cX4_in 3 (some .boolean), .methodLink RX4 33 yX4_of, .instanceMethod yX4_of, .selects RX4 yX4_of yX4_of, .code yX4_of cX4_of 3 (some .int), .fieldLink RX4 7 "LateDovesModel" "z" "[I", .methodLink RX4 64 yX4_put, .instanceMethod yX4_put, .selects RX4 yX4_put yX4_put, .code yX4_put cX4_put 4 none] ++ wsX40)
def wsX4_buy_r1 : List Cond := [Cond.fieldLink RX4 25 "LateDovesModel" "thrown" "I", Cond.methodLink RX4 58 yX4_isHole, Cond.static yX4_isHole, Cond.initialized RX4, Cond.code yX4_isHole cX4_isHole 1 (some .boolean), Cond.methodLink RX4 29 yX4_in, Cond.static yX4_in, Cond.code yX4_in cX4_in 3 (some .boolean), Cond.methodLink RX4 97 yX4_whyNoDove, Cond.instanceMethod yX4_whyNoDove, Cond.selects RX4 yX4_whyNoDove yX4_whyNoDove, Cond.code yX4_whyNoDove cX4_whyNoDove 2 (some .int), Cond.methodLink RX4 91 yX4_allDoves, Cond.instanceMethod yX4_allDoves, Cond.selects RX4 yX4_allDoves yX4_allDoves, Cond.code yX4_allDoves cX4_allDoves 3 (some .int), Cond.methodLink RX4 33 yX4_of, Cond.instanceMethod yX4_of, Cond.selects RX4 yX4_of yX4_of, Cond.code yX4_of cX4_of 3 (some .int), Cond.fieldLink RX4 7 "LateDovesModel" "z" "[I", Cond.methodLink RX4 94 yX4_ownerOf, Cond.instanceMethod yX4_ownerOf, Cond.selects RX4 yX4_ownerOf yX4_ownerOf]
def wsX4_buy_r2 : List Cond := [Cond.code yX4_ownerOf cX4_ownerOf 4 (some .int), Cond.methodLink RX4 37 yX4_isDove, Cond.instanceMethod yX4_isDove, Cond.selects RX4 yX4_isDove yX4_isDove, Cond.code yX4_isDove cX4_isDove 2 (some .boolean), Cond.methodLink RX4 41 yX4_isOpen, Cond.instanceMethod yX4_isOpen, Cond.selects RX4 yX4_isOpen yX4_isOpen, Cond.code yX4_isOpen cX4_isOpen 2 (some .boolean), Cond.methodLink RX4 51 yX4_record, Cond.instanceMethod yX4_record, Cond.selects RX4 yX4_record yX4_record, Cond.code yX4_record cX4_record 2 none, Cond.fieldLink RX4 44 "LateDovesModel" "saves" "I", Cond.fieldLink RX4 16 "LateDovesModel" "saved" "[I", Cond.methodLink RX4 100 yX4_doBuy, Cond.instanceMethod yX4_doBuy, Cond.selects RX4 yX4_doBuy yX4_doBuy, Cond.code yX4_doBuy cX4_doBuy 5 (some .int), Cond.methodLink RX4 64 yX4_put, Cond.instanceMethod yX4_put, Cond.selects RX4 yX4_put yX4_put, Cond.code yX4_put cX4_put 4 none]
def wsX4_buy : List Cond := .code yX4_buy cX4_buy 3 (some .int) :: ((wsX4_buy_r1 ++ wsX4_buy_r2) ++ wsX40)
def wsX4_sell : List Cond := .code yX4_sell cX4_sell 3 (some .int) :: ([.fieldLink RX4 25 "LateDovesModel" "thrown" "I", .methodLink RX4 37 yX4_isDove, .instanceMethod yX4_isDove, .selects RX4 yX4_isDove yX4_isDove, .initialized RX4, .code yX4_isDove cX4_isDove 2 (some .boolean), .methodLink RX4 29 yX4_in, .static yX4_in, .code yX4_in cX4_in 3 (some .boolean), .methodLink RX4 33 yX4_of, .instanceMethod yX4_of, .selects RX4 yX4_of yX4_of, .code yX4_of cX4_of 3 (some .int), .fieldLink RX4 7 "LateDovesModel" "z" "[I", .methodLink RX4 51 yX4_record, .instanceMethod yX4_record, .selects RX4 yX4_record yX4_record, .code yX4_record cX4_record 2 none, .fieldLink RX4 44 "LateDovesModel" "saves" "I", .fieldLink RX4 16 "LateDovesModel" "saved" "[I", .methodLink RX4 64 yX4_put, .instanceMethod yX4_put, .selects RX4 yX4_put yX4_put, .code yX4_put cX4_put 4 none] ++ wsX40)
def wsX4_whyNoMates : List Cond := .code yX4_whyNoMates cX4_whyNoMates 3 (some .int) :: ([.methodLink RX4 33 yX4_of, .instanceMethod yX4_of, .selects RX4 yX4_of yX4_of, .initialized RX4, .code yX4_of cX4_of 3 (some .int), .fieldLink RX4 7 "LateDovesModel" "z" "[I"] ++ wsX40)
def wsX4_doMate : List Cond := .code yX4_doMate cX4_doMate 3 (some .int) :: ([.methodLink RX4 64 yX4_put, .instanceMethod yX4_put, .selects RX4 yX4_put yX4_put, .initialized RX4, .code yX4_put cX4_put 4 none, .fieldLink RX4 7 "LateDovesModel" "z" "[I", .methodLink RX4 103 yX4_pairs, .instanceMethod yX4_pairs, .selects RX4 yX4_pairs yX4_pairs, .code yX4_pairs cX4_pairs 3 (some .int), .methodLink RX4 37 yX4_isDove, .instanceMethod yX4_isDove, .selects RX4 yX4_isDove yX4_isDove, .code yX4_isDove cX4_isDove 2 (some .boolean), .methodLink RX4 29 yX4_in, .static yX4_in, .code yX4_in cX4_in 3 (some .boolean), .methodLink RX4 33 yX4_of, .instanceMethod yX4_of, .selects RX4 yX4_of yX4_of, .code yX4_of cX4_of 3 (some .int)] ++ wsX40)
def wsX4_mate_r1 : List Cond := [Cond.fieldLink RX4 25 "LateDovesModel" "thrown" "I", Cond.methodLink RX4 37 yX4_isDove, Cond.instanceMethod yX4_isDove, Cond.selects RX4 yX4_isDove yX4_isDove, Cond.initialized RX4, Cond.code yX4_isDove cX4_isDove 2 (some .boolean), Cond.methodLink RX4 29 yX4_in, Cond.static yX4_in, Cond.code yX4_in cX4_in 3 (some .boolean), Cond.methodLink RX4 33 yX4_of, Cond.instanceMethod yX4_of, Cond.selects RX4 yX4_of yX4_of, Cond.code yX4_of cX4_of 3 (some .int), Cond.fieldLink RX4 7 "LateDovesModel" "z" "[I", Cond.methodLink RX4 106 yX4_whyNoMates, Cond.instanceMethod yX4_whyNoMates, Cond.selects RX4 yX4_whyNoMates yX4_whyNoMates, Cond.code yX4_whyNoMates cX4_whyNoMates 3 (some .int), Cond.methodLink RX4 51 yX4_record, Cond.instanceMethod yX4_record, Cond.selects RX4 yX4_record yX4_record, Cond.code yX4_record cX4_record 2 none, Cond.fieldLink RX4 44 "LateDovesModel" "saves" "I", Cond.fieldLink RX4 16 "LateDovesModel" "saved" "[I"]
def wsX4_mate_r2 : List Cond := [Cond.methodLink RX4 109 yX4_doMate, Cond.instanceMethod yX4_doMate, Cond.selects RX4 yX4_doMate yX4_doMate, Cond.code yX4_doMate cX4_doMate 3 (some .int), Cond.methodLink RX4 64 yX4_put, Cond.instanceMethod yX4_put, Cond.selects RX4 yX4_put yX4_put, Cond.code yX4_put cX4_put 4 none, Cond.methodLink RX4 103 yX4_pairs, Cond.instanceMethod yX4_pairs, Cond.selects RX4 yX4_pairs yX4_pairs, Cond.code yX4_pairs cX4_pairs 3 (some .int)]
def wsX4_mate : List Cond := .code yX4_mate cX4_mate 3 (some .int) :: ((wsX4_mate_r1 ++ wsX4_mate_r2) ++ wsX40)
def wsX4_whyNoShut : List Cond := .code yX4_whyNoShut cX4_whyNoShut 2 (some .int) :: ([.methodLink RX4 54 yX4_sitter, .instanceMethod yX4_sitter, .selects RX4 yX4_sitter yX4_sitter, .initialized RX4, .code yX4_sitter cX4_sitter 4 (some .int), .methodLink RX4 37 yX4_isDove, .instanceMethod yX4_isDove, .selects RX4 yX4_isDove yX4_isDove, .code yX4_isDove cX4_isDove 2 (some .boolean), .methodLink RX4 29 yX4_in, .static yX4_in, .code yX4_in cX4_in 3 (some .boolean), .methodLink RX4 33 yX4_of, .instanceMethod yX4_of, .selects RX4 yX4_of yX4_of, .code yX4_of cX4_of 3 (some .int), .fieldLink RX4 7 "LateDovesModel" "z" "[I", .methodLink RX4 41 yX4_isOpen, .instanceMethod yX4_isOpen, .selects RX4 yX4_isOpen yX4_isOpen, .code yX4_isOpen cX4_isOpen 2 (some .boolean)] ++ wsX40)
def wsX4_shut_r1 : List Cond := [Cond.fieldLink RX4 25 "LateDovesModel" "thrown" "I", Cond.fieldLink RX4 7 "LateDovesModel" "z" "[I", Cond.methodLink RX4 58 yX4_isHole, Cond.static yX4_isHole, Cond.initialized RX4, Cond.code yX4_isHole cX4_isHole 1 (some .boolean), Cond.methodLink RX4 29 yX4_in, Cond.static yX4_in, Cond.code yX4_in cX4_in 3 (some .boolean), Cond.methodLink RX4 112 yX4_whyNoShut, Cond.instanceMethod yX4_whyNoShut, Cond.selects RX4 yX4_whyNoShut yX4_whyNoShut, Cond.code yX4_whyNoShut cX4_whyNoShut 2 (some .int), Cond.methodLink RX4 54 yX4_sitter, Cond.instanceMethod yX4_sitter, Cond.selects RX4 yX4_sitter yX4_sitter, Cond.code yX4_sitter cX4_sitter 4 (some .int), Cond.methodLink RX4 37 yX4_isDove, Cond.instanceMethod yX4_isDove, Cond.selects RX4 yX4_isDove yX4_isDove, Cond.code yX4_isDove cX4_isDove 2 (some .boolean), Cond.methodLink RX4 33 yX4_of, Cond.instanceMethod yX4_of, Cond.selects RX4 yX4_of yX4_of]
def wsX4_shut_r2 : List Cond := [Cond.code yX4_of cX4_of 3 (some .int), Cond.methodLink RX4 41 yX4_isOpen, Cond.instanceMethod yX4_isOpen, Cond.selects RX4 yX4_isOpen yX4_isOpen, Cond.code yX4_isOpen cX4_isOpen 2 (some .boolean), Cond.methodLink RX4 51 yX4_record, Cond.instanceMethod yX4_record, Cond.selects RX4 yX4_record yX4_record, Cond.code yX4_record cX4_record 2 none, Cond.fieldLink RX4 44 "LateDovesModel" "saves" "I", Cond.fieldLink RX4 16 "LateDovesModel" "saved" "[I", Cond.methodLink RX4 115 yX4_openHoles, Cond.instanceMethod yX4_openHoles, Cond.selects RX4 yX4_openHoles yX4_openHoles, Cond.code yX4_openHoles cX4_openHoles 3 (some .int)]
def wsX4_shut : List Cond := .code yX4_shut cX4_shut 2 (some .int) :: ((wsX4_shut_r1 ++ wsX4_shut_r2) ++ wsX40)
def wsX4_open : List Cond := .code yX4_open cX4_open 2 (some .int) :: ([.fieldLink RX4 25 "LateDovesModel" "thrown" "I", .fieldLink RX4 7 "LateDovesModel" "z" "[I", .methodLink RX4 58 yX4_isHole, .static yX4_isHole, .initialized RX4, .code yX4_isHole cX4_isHole 1 (some .boolean), .methodLink RX4 29 yX4_in, .static yX4_in, .code yX4_in cX4_in 3 (some .boolean), .methodLink RX4 51 yX4_record, .instanceMethod yX4_record, .selects RX4 yX4_record yX4_record, .code yX4_record cX4_record 2 none, .fieldLink RX4 44 "LateDovesModel" "saves" "I", .fieldLink RX4 16 "LateDovesModel" "saved" "[I", .methodLink RX4 115 yX4_openHoles, .instanceMethod yX4_openHoles, .selects RX4 yX4_openHoles yX4_openHoles, .code yX4_openHoles cX4_openHoles 3 (some .int), .methodLink RX4 41 yX4_isOpen, .instanceMethod yX4_isOpen, .selects RX4 yX4_isOpen yX4_isOpen, .code yX4_isOpen cX4_isOpen 2 (some .boolean)] ++ wsX40)
def wsX4_set : List Cond := .code yX4_set cX4_set 4 (some .int) :: ([.fieldLink RX4 25 "LateDovesModel" "thrown" "I", .fieldLink RX4 7 "LateDovesModel" "z" "[I", .methodLink RX4 29 yX4_in, .static yX4_in, .initialized RX4, .code yX4_in cX4_in 3 (some .boolean), .methodLink RX4 51 yX4_record, .instanceMethod yX4_record, .selects RX4 yX4_record yX4_record, .code yX4_record cX4_record 2 none, .fieldLink RX4 44 "LateDovesModel" "saves" "I", .fieldLink RX4 16 "LateDovesModel" "saved" "[I"] ++ wsX40)
def wsX4_append : List Cond := .code yX4_append cX4_append 2 (some .int) :: ([.fieldLink RX4 118 "LateDovesModel" "length" "I", .fieldLink RX4 25 "LateDovesModel" "thrown" "I", .fieldLink RX4 22 "LateDovesModel" "text" "[I", .methodLink RX4 29 yX4_in, .static yX4_in, .initialized RX4, .code yX4_in cX4_in 3 (some .boolean)] ++ wsX40)
def wsX4_clearBuffer : List Cond := .code yX4_clearBuffer cX4_clearBuffer 2 (some .int) :: ([.fieldLink RX4 25 "LateDovesModel" "thrown" "I", .fieldLink RX4 118 "LateDovesModel" "length" "I"] ++ wsX40)
def wsX4_at : List Cond := .code yX4_at cX4_at 2 (some .int) :: ([.fieldLink RX4 118 "LateDovesModel" "length" "I", .fieldLink RX4 22 "LateDovesModel" "text" "[I"] ++ wsX40)
def wsX4_readNumber : List Cond := .code yX4_readNumber cX4_readNumber 5 (some .int) :: ([.fieldLink RX4 124 "LateDovesModel" "second" "I", .methodLink RX4 121 yX4_at, .instanceMethod yX4_at, .selects RX4 yX4_at yX4_at, .initialized RX4, .code yX4_at cX4_at 2 (some .int), .fieldLink RX4 118 "LateDovesModel" "length" "I", .fieldLink RX4 22 "LateDovesModel" "text" "[I", .methodLink RX4 29 yX4_in, .static yX4_in, .code yX4_in cX4_in 3 (some .boolean)] ++ wsX40)
def wsX4_readTwo : List Cond := .code yX4_readTwo cX4_readTwo 7 (some .int) :: ([.fieldLink RX4 124 "LateDovesModel" "second" "I", .fieldLink RX4 131 "LateDovesModel" "first" "I", .methodLink RX4 127 yX4_readNumber, .instanceMethod yX4_readNumber, .selects RX4 yX4_readNumber yX4_readNumber, .initialized RX4, .code yX4_readNumber cX4_readNumber 5 (some .int), .methodLink RX4 121 yX4_at, .instanceMethod yX4_at, .selects RX4 yX4_at yX4_at, .code yX4_at cX4_at 2 (some .int), .fieldLink RX4 118 "LateDovesModel" "length" "I", .fieldLink RX4 22 "LateDovesModel" "text" "[I", .methodLink RX4 29 yX4_in, .static yX4_in, .code yX4_in cX4_in 3 (some .boolean)] ++ wsX40)
def wsX4_readPart : List Cond := .code yX4_readPart cX4_readPart 2 (some .int) :: ([.fieldLink RX4 134 "LateDovesModel" "letter" "I", .methodLink RX4 121 yX4_at, .instanceMethod yX4_at, .selects RX4 yX4_at yX4_at, .initialized RX4, .code yX4_at cX4_at 2 (some .int), .fieldLink RX4 118 "LateDovesModel" "length" "I", .fieldLink RX4 22 "LateDovesModel" "text" "[I", .methodLink RX4 137 yX4_readTwo, .instanceMethod yX4_readTwo, .selects RX4 yX4_readTwo yX4_readTwo, .code yX4_readTwo cX4_readTwo 7 (some .int), .fieldLink RX4 124 "LateDovesModel" "second" "I", .fieldLink RX4 131 "LateDovesModel" "first" "I", .methodLink RX4 127 yX4_readNumber, .instanceMethod yX4_readNumber, .selects RX4 yX4_readNumber yX4_readNumber, .code yX4_readNumber cX4_readNumber 5 (some .int), .methodLink RX4 29 yX4_in, .static yX4_in, .code yX4_in cX4_in 3 (some .boolean)] ++ wsX40)
def wsX4_findError_r1 : List Cond := [Cond.fieldLink RX4 118 "LateDovesModel" "length" "I", Cond.fieldLink RX4 22 "LateDovesModel" "text" "[I", Cond.methodLink RX4 141 yX4_readPart, Cond.instanceMethod yX4_readPart, Cond.selects RX4 yX4_readPart yX4_readPart, Cond.initialized RX4, Cond.code yX4_readPart cX4_readPart 2 (some .int), Cond.fieldLink RX4 134 "LateDovesModel" "letter" "I", Cond.methodLink RX4 121 yX4_at, Cond.instanceMethod yX4_at, Cond.selects RX4 yX4_at yX4_at, Cond.code yX4_at cX4_at 2 (some .int), Cond.methodLink RX4 137 yX4_readTwo, Cond.instanceMethod yX4_readTwo, Cond.selects RX4 yX4_readTwo yX4_readTwo, Cond.code yX4_readTwo cX4_readTwo 7 (some .int), Cond.fieldLink RX4 124 "LateDovesModel" "second" "I", Cond.fieldLink RX4 131 "LateDovesModel" "first" "I", Cond.methodLink RX4 127 yX4_readNumber, Cond.instanceMethod yX4_readNumber, Cond.selects RX4 yX4_readNumber yX4_readNumber, Cond.code yX4_readNumber cX4_readNumber 5 (some .int), Cond.methodLink RX4 29 yX4_in, Cond.static yX4_in]
def wsX4_findError_r2 : List Cond := [Cond.code yX4_in cX4_in 3 (some .boolean)]
def wsX4_findError : List Cond := .code yX4_findError cX4_findError 2 (some .int) :: ((wsX4_findError_r1 ++ wsX4_findError_r2) ++ wsX40)
def wsX4_firstError_r1 : List Cond := [Cond.fieldLink RX4 25 "LateDovesModel" "thrown" "I", Cond.fieldLink RX4 118 "LateDovesModel" "length" "I", Cond.methodLink RX4 144 yX4_findError, Cond.instanceMethod yX4_findError, Cond.selects RX4 yX4_findError yX4_findError, Cond.initialized RX4, Cond.code yX4_findError cX4_findError 2 (some .int), Cond.fieldLink RX4 22 "LateDovesModel" "text" "[I", Cond.methodLink RX4 141 yX4_readPart, Cond.instanceMethod yX4_readPart, Cond.selects RX4 yX4_readPart yX4_readPart, Cond.code yX4_readPart cX4_readPart 2 (some .int), Cond.fieldLink RX4 134 "LateDovesModel" "letter" "I", Cond.methodLink RX4 121 yX4_at, Cond.instanceMethod yX4_at, Cond.selects RX4 yX4_at yX4_at, Cond.code yX4_at cX4_at 2 (some .int), Cond.methodLink RX4 137 yX4_readTwo, Cond.instanceMethod yX4_readTwo, Cond.selects RX4 yX4_readTwo yX4_readTwo, Cond.code yX4_readTwo cX4_readTwo 7 (some .int), Cond.fieldLink RX4 124 "LateDovesModel" "second" "I", Cond.fieldLink RX4 131 "LateDovesModel" "first" "I", Cond.methodLink RX4 127 yX4_readNumber]
def wsX4_firstError_r2 : List Cond := [Cond.instanceMethod yX4_readNumber, Cond.selects RX4 yX4_readNumber yX4_readNumber, Cond.code yX4_readNumber cX4_readNumber 5 (some .int), Cond.methodLink RX4 29 yX4_in, Cond.static yX4_in, Cond.code yX4_in cX4_in 3 (some .boolean)]
def wsX4_firstError : List Cond := .code yX4_firstError cX4_firstError 2 (some .int) :: ((wsX4_firstError_r1 ++ wsX4_firstError_r2) ++ wsX40)
def wsX4_whyNoPart_r1 : List Cond := [Cond.fieldLink RX4 134 "LateDovesModel" "letter" "I", Cond.fieldLink RX4 131 "LateDovesModel" "first" "I", Cond.fieldLink RX4 124 "LateDovesModel" "second" "I", Cond.methodLink RX4 37 yX4_isDove, Cond.instanceMethod yX4_isDove, Cond.selects RX4 yX4_isDove yX4_isDove, Cond.initialized RX4, Cond.code yX4_isDove cX4_isDove 2 (some .boolean), Cond.methodLink RX4 29 yX4_in, Cond.static yX4_in, Cond.code yX4_in cX4_in 3 (some .boolean), Cond.methodLink RX4 33 yX4_of, Cond.instanceMethod yX4_of, Cond.selects RX4 yX4_of yX4_of, Cond.code yX4_of cX4_of 3 (some .int), Cond.fieldLink RX4 7 "LateDovesModel" "z" "[I", Cond.methodLink RX4 78 yX4_whyNoHome, Cond.instanceMethod yX4_whyNoHome, Cond.selects RX4 yX4_whyNoHome yX4_whyNoHome, Cond.code yX4_whyNoHome cX4_whyNoHome 3 (some .int), Cond.methodLink RX4 97 yX4_whyNoDove, Cond.instanceMethod yX4_whyNoDove, Cond.selects RX4 yX4_whyNoDove yX4_whyNoDove, Cond.code yX4_whyNoDove cX4_whyNoDove 2 (some .int)]
def wsX4_whyNoPart_r2 : List Cond := [Cond.methodLink RX4 91 yX4_allDoves, Cond.instanceMethod yX4_allDoves, Cond.selects RX4 yX4_allDoves yX4_allDoves, Cond.code yX4_allDoves cX4_allDoves 3 (some .int), Cond.methodLink RX4 94 yX4_ownerOf, Cond.instanceMethod yX4_ownerOf, Cond.selects RX4 yX4_ownerOf yX4_ownerOf, Cond.code yX4_ownerOf cX4_ownerOf 4 (some .int), Cond.methodLink RX4 41 yX4_isOpen, Cond.instanceMethod yX4_isOpen, Cond.selects RX4 yX4_isOpen yX4_isOpen, Cond.code yX4_isOpen cX4_isOpen 2 (some .boolean), Cond.methodLink RX4 106 yX4_whyNoMates, Cond.instanceMethod yX4_whyNoMates, Cond.selects RX4 yX4_whyNoMates yX4_whyNoMates, Cond.code yX4_whyNoMates cX4_whyNoMates 3 (some .int), Cond.methodLink RX4 112 yX4_whyNoShut, Cond.instanceMethod yX4_whyNoShut, Cond.selects RX4 yX4_whyNoShut yX4_whyNoShut, Cond.code yX4_whyNoShut cX4_whyNoShut 2 (some .int), Cond.methodLink RX4 54 yX4_sitter, Cond.instanceMethod yX4_sitter, Cond.selects RX4 yX4_sitter yX4_sitter, Cond.code yX4_sitter cX4_sitter 4 (some .int)]
def wsX4_whyNoPart : List Cond := .code yX4_whyNoPart cX4_whyNoPart 1 (some .int) :: ((wsX4_whyNoPart_r1 ++ wsX4_whyNoPart_r2) ++ wsX40)
def wsX4_doPart_r1 : List Cond := [Cond.fieldLink RX4 134 "LateDovesModel" "letter" "I", Cond.fieldLink RX4 131 "LateDovesModel" "first" "I", Cond.fieldLink RX4 124 "LateDovesModel" "second" "I", Cond.fieldLink RX4 7 "LateDovesModel" "z" "[I", Cond.methodLink RX4 81 yX4_doHome, Cond.instanceMethod yX4_doHome, Cond.selects RX4 yX4_doHome yX4_doHome, Cond.initialized RX4, Cond.code yX4_doHome cX4_doHome 10 (some .int), Cond.methodLink RX4 33 yX4_of, Cond.instanceMethod yX4_of, Cond.selects RX4 yX4_of yX4_of, Cond.code yX4_of cX4_of 3 (some .int), Cond.methodLink RX4 64 yX4_put, Cond.instanceMethod yX4_put, Cond.selects RX4 yX4_put yX4_put, Cond.code yX4_put cX4_put 4 none, Cond.methodLink RX4 41 yX4_isOpen, Cond.instanceMethod yX4_isOpen, Cond.selects RX4 yX4_isOpen yX4_isOpen, Cond.code yX4_isOpen cX4_isOpen 2 (some .boolean), Cond.methodLink RX4 54 yX4_sitter, Cond.instanceMethod yX4_sitter, Cond.selects RX4 yX4_sitter yX4_sitter]
def wsX4_doPart_r2 : List Cond := [Cond.code yX4_sitter cX4_sitter 4 (some .int), Cond.methodLink RX4 37 yX4_isDove, Cond.instanceMethod yX4_isDove, Cond.selects RX4 yX4_isDove yX4_isDove, Cond.code yX4_isDove cX4_isDove 2 (some .boolean), Cond.methodLink RX4 29 yX4_in, Cond.static yX4_in, Cond.code yX4_in cX4_in 3 (some .boolean), Cond.methodLink RX4 68 yX4_countShift, Cond.instanceMethod yX4_countShift, Cond.selects RX4 yX4_countShift yX4_countShift, Cond.code yX4_countShift cX4_countShift 3 none, Cond.methodLink RX4 72 yX4_sit, Cond.instanceMethod yX4_sit, Cond.selects RX4 yX4_sit yX4_sit, Cond.code yX4_sit cX4_sit 3 none, Cond.methodLink RX4 75 yX4_freeFor, Cond.instanceMethod yX4_freeFor, Cond.selects RX4 yX4_freeFor yX4_freeFor, Cond.code yX4_freeFor cX4_freeFor 5 (some .int), Cond.methodLink RX4 58 yX4_isHole, Cond.static yX4_isHole, Cond.code yX4_isHole cX4_isHole 1 (some .boolean), Cond.methodLink RX4 61 yX4_isFree]
def wsX4_doPart_r3 : List Cond := [Cond.instanceMethod yX4_isFree, Cond.selects RX4 yX4_isFree yX4_isFree, Cond.code yX4_isFree cX4_isFree 2 (some .boolean), Cond.methodLink RX4 100 yX4_doBuy, Cond.instanceMethod yX4_doBuy, Cond.selects RX4 yX4_doBuy yX4_doBuy, Cond.code yX4_doBuy cX4_doBuy 5 (some .int), Cond.methodLink RX4 109 yX4_doMate, Cond.instanceMethod yX4_doMate, Cond.selects RX4 yX4_doMate yX4_doMate, Cond.code yX4_doMate cX4_doMate 3 (some .int), Cond.methodLink RX4 103 yX4_pairs, Cond.instanceMethod yX4_pairs, Cond.selects RX4 yX4_pairs yX4_pairs, Cond.code yX4_pairs cX4_pairs 3 (some .int), Cond.methodLink RX4 87 yX4_doDawn, Cond.instanceMethod yX4_doDawn, Cond.selects RX4 yX4_doDawn yX4_doDawn, Cond.code yX4_doDawn cX4_doDawn 5 (some .int), Cond.methodLink RX4 84 yX4_dovesAt, Cond.instanceMethod yX4_dovesAt, Cond.selects RX4 yX4_dovesAt yX4_dovesAt, Cond.code yX4_dovesAt cX4_dovesAt 5 (some .int)]
def wsX4_doPart : List Cond := .code yX4_doPart cX4_doPart 1 (some .int) :: ((wsX4_doPart_r1 ++ (wsX4_doPart_r2 ++ wsX4_doPart_r3)) ++ wsX40)
def wsX4_pass_r1 : List Cond := [Cond.fieldLink RX4 25 "LateDovesModel" "thrown" "I", Cond.fieldLink RX4 7 "LateDovesModel" "z" "[I", Cond.fieldLink RX4 118 "LateDovesModel" "length" "I", Cond.methodLink RX4 144 yX4_findError, Cond.instanceMethod yX4_findError, Cond.selects RX4 yX4_findError yX4_findError, Cond.initialized RX4, Cond.code yX4_findError cX4_findError 2 (some .int), Cond.fieldLink RX4 22 "LateDovesModel" "text" "[I", Cond.methodLink RX4 141 yX4_readPart, Cond.instanceMethod yX4_readPart, Cond.selects RX4 yX4_readPart yX4_readPart, Cond.code yX4_readPart cX4_readPart 2 (some .int), Cond.fieldLink RX4 134 "LateDovesModel" "letter" "I", Cond.methodLink RX4 121 yX4_at, Cond.instanceMethod yX4_at, Cond.selects RX4 yX4_at yX4_at, Cond.code yX4_at cX4_at 2 (some .int), Cond.methodLink RX4 137 yX4_readTwo, Cond.instanceMethod yX4_readTwo, Cond.selects RX4 yX4_readTwo yX4_readTwo, Cond.code yX4_readTwo cX4_readTwo 7 (some .int), Cond.fieldLink RX4 124 "LateDovesModel" "second" "I", Cond.fieldLink RX4 131 "LateDovesModel" "first" "I"]
def wsX4_pass_r2 : List Cond := [Cond.methodLink RX4 127 yX4_readNumber, Cond.instanceMethod yX4_readNumber, Cond.selects RX4 yX4_readNumber yX4_readNumber, Cond.code yX4_readNumber cX4_readNumber 5 (some .int), Cond.methodLink RX4 29 yX4_in, Cond.static yX4_in, Cond.code yX4_in cX4_in 3 (some .boolean), Cond.methodLink RX4 51 yX4_record, Cond.instanceMethod yX4_record, Cond.selects RX4 yX4_record yX4_record, Cond.code yX4_record cX4_record 2 none, Cond.fieldLink RX4 44 "LateDovesModel" "saves" "I", Cond.fieldLink RX4 16 "LateDovesModel" "saved" "[I", Cond.methodLink RX4 147 yX4_whyNoPart, Cond.instanceMethod yX4_whyNoPart, Cond.selects RX4 yX4_whyNoPart yX4_whyNoPart, Cond.code yX4_whyNoPart cX4_whyNoPart 1 (some .int), Cond.methodLink RX4 37 yX4_isDove, Cond.instanceMethod yX4_isDove, Cond.selects RX4 yX4_isDove yX4_isDove, Cond.code yX4_isDove cX4_isDove 2 (some .boolean), Cond.methodLink RX4 33 yX4_of, Cond.instanceMethod yX4_of, Cond.selects RX4 yX4_of yX4_of]
def wsX4_pass_r3 : List Cond := [Cond.code yX4_of cX4_of 3 (some .int), Cond.methodLink RX4 78 yX4_whyNoHome, Cond.instanceMethod yX4_whyNoHome, Cond.selects RX4 yX4_whyNoHome yX4_whyNoHome, Cond.code yX4_whyNoHome cX4_whyNoHome 3 (some .int), Cond.methodLink RX4 97 yX4_whyNoDove, Cond.instanceMethod yX4_whyNoDove, Cond.selects RX4 yX4_whyNoDove yX4_whyNoDove, Cond.code yX4_whyNoDove cX4_whyNoDove 2 (some .int), Cond.methodLink RX4 91 yX4_allDoves, Cond.instanceMethod yX4_allDoves, Cond.selects RX4 yX4_allDoves yX4_allDoves, Cond.code yX4_allDoves cX4_allDoves 3 (some .int), Cond.methodLink RX4 94 yX4_ownerOf, Cond.instanceMethod yX4_ownerOf, Cond.selects RX4 yX4_ownerOf yX4_ownerOf, Cond.code yX4_ownerOf cX4_ownerOf 4 (some .int), Cond.methodLink RX4 41 yX4_isOpen, Cond.instanceMethod yX4_isOpen, Cond.selects RX4 yX4_isOpen yX4_isOpen, Cond.code yX4_isOpen cX4_isOpen 2 (some .boolean), Cond.methodLink RX4 106 yX4_whyNoMates, Cond.instanceMethod yX4_whyNoMates, Cond.selects RX4 yX4_whyNoMates yX4_whyNoMates]
def wsX4_pass_r4 : List Cond := [Cond.code yX4_whyNoMates cX4_whyNoMates 3 (some .int), Cond.methodLink RX4 112 yX4_whyNoShut, Cond.instanceMethod yX4_whyNoShut, Cond.selects RX4 yX4_whyNoShut yX4_whyNoShut, Cond.code yX4_whyNoShut cX4_whyNoShut 2 (some .int), Cond.methodLink RX4 54 yX4_sitter, Cond.instanceMethod yX4_sitter, Cond.selects RX4 yX4_sitter yX4_sitter, Cond.code yX4_sitter cX4_sitter 4 (some .int), Cond.methodLink RX4 150 yX4_doPart, Cond.instanceMethod yX4_doPart, Cond.selects RX4 yX4_doPart yX4_doPart, Cond.code yX4_doPart cX4_doPart 1 (some .int), Cond.methodLink RX4 81 yX4_doHome, Cond.instanceMethod yX4_doHome, Cond.selects RX4 yX4_doHome yX4_doHome, Cond.code yX4_doHome cX4_doHome 10 (some .int), Cond.methodLink RX4 64 yX4_put, Cond.instanceMethod yX4_put, Cond.selects RX4 yX4_put yX4_put, Cond.code yX4_put cX4_put 4 none, Cond.methodLink RX4 68 yX4_countShift, Cond.instanceMethod yX4_countShift, Cond.selects RX4 yX4_countShift yX4_countShift]
def wsX4_pass_r5 : List Cond := [Cond.code yX4_countShift cX4_countShift 3 none, Cond.methodLink RX4 72 yX4_sit, Cond.instanceMethod yX4_sit, Cond.selects RX4 yX4_sit yX4_sit, Cond.code yX4_sit cX4_sit 3 none, Cond.methodLink RX4 75 yX4_freeFor, Cond.instanceMethod yX4_freeFor, Cond.selects RX4 yX4_freeFor yX4_freeFor, Cond.code yX4_freeFor cX4_freeFor 5 (some .int), Cond.methodLink RX4 58 yX4_isHole, Cond.static yX4_isHole, Cond.code yX4_isHole cX4_isHole 1 (some .boolean), Cond.methodLink RX4 61 yX4_isFree, Cond.instanceMethod yX4_isFree, Cond.selects RX4 yX4_isFree yX4_isFree, Cond.code yX4_isFree cX4_isFree 2 (some .boolean), Cond.methodLink RX4 100 yX4_doBuy, Cond.instanceMethod yX4_doBuy, Cond.selects RX4 yX4_doBuy yX4_doBuy, Cond.code yX4_doBuy cX4_doBuy 5 (some .int), Cond.methodLink RX4 109 yX4_doMate, Cond.instanceMethod yX4_doMate, Cond.selects RX4 yX4_doMate yX4_doMate, Cond.code yX4_doMate cX4_doMate 3 (some .int)]
def wsX4_pass_r6 : List Cond := [Cond.methodLink RX4 103 yX4_pairs, Cond.instanceMethod yX4_pairs, Cond.selects RX4 yX4_pairs yX4_pairs, Cond.code yX4_pairs cX4_pairs 3 (some .int), Cond.methodLink RX4 87 yX4_doDawn, Cond.instanceMethod yX4_doDawn, Cond.selects RX4 yX4_doDawn yX4_doDawn, Cond.code yX4_doDawn cX4_doDawn 5 (some .int), Cond.methodLink RX4 84 yX4_dovesAt, Cond.instanceMethod yX4_dovesAt, Cond.selects RX4 yX4_dovesAt yX4_dovesAt, Cond.code yX4_dovesAt cX4_dovesAt 5 (some .int)]
def wsX4_pass : List Cond := .code yX4_pass cX4_pass 5 (some .int) :: ((wsX4_pass_r1 ++ (wsX4_pass_r2 ++ (wsX4_pass_r3 ++ (wsX4_pass_r4 ++ (wsX4_pass_r5 ++ wsX4_pass_r6))))) ++ wsX40)
def wsX4_stopped : List Cond := .code yX4_stopped cX4_stopped 2 (some .int) :: ([.fieldLink RX4 25 "LateDovesModel" "thrown" "I", .fieldLink RX4 7 "LateDovesModel" "z" "[I", .methodLink RX4 29 yX4_in, .static yX4_in, .initialized RX4, .code yX4_in cX4_in 3 (some .boolean)] ++ wsX40)
def wsX4_doveNow : List Cond := .code yX4_doveNow cX4_doveNow 3 (some .int) :: ([.methodLink RX4 33 yX4_of, .instanceMethod yX4_of, .selects RX4 yX4_of yX4_of, .initialized RX4, .code yX4_of cX4_of 3 (some .int), .fieldLink RX4 7 "LateDovesModel" "z" "[I"] ++ wsX40)
def wsX4_dove : List Cond := .code yX4_dove cX4_dove 3 (some .int) :: ([.fieldLink RX4 25 "LateDovesModel" "thrown" "I", .methodLink RX4 37 yX4_isDove, .instanceMethod yX4_isDove, .selects RX4 yX4_isDove yX4_isDove, .initialized RX4, .code yX4_isDove cX4_isDove 2 (some .boolean), .methodLink RX4 29 yX4_in, .static yX4_in, .code yX4_in cX4_in 3 (some .boolean), .methodLink RX4 33 yX4_of, .instanceMethod yX4_of, .selects RX4 yX4_of yX4_of, .code yX4_of cX4_of 3 (some .int), .fieldLink RX4 7 "LateDovesModel" "z" "[I", .methodLink RX4 153 yX4_doveNow, .instanceMethod yX4_doveNow, .selects RX4 yX4_doveNow yX4_doveNow, .code yX4_doveNow cX4_doveNow 3 (some .int)] ++ wsX40)
def wsX4_holeNow_r1 : List Cond := [Cond.methodLink RX4 54 yX4_sitter, Cond.instanceMethod yX4_sitter, Cond.selects RX4 yX4_sitter yX4_sitter, Cond.initialized RX4, Cond.code yX4_sitter cX4_sitter 4 (some .int), Cond.methodLink RX4 37 yX4_isDove, Cond.instanceMethod yX4_isDove, Cond.selects RX4 yX4_isDove yX4_isDove, Cond.code yX4_isDove cX4_isDove 2 (some .boolean), Cond.methodLink RX4 29 yX4_in, Cond.static yX4_in, Cond.code yX4_in cX4_in 3 (some .boolean), Cond.methodLink RX4 33 yX4_of, Cond.instanceMethod yX4_of, Cond.selects RX4 yX4_of yX4_of, Cond.code yX4_of cX4_of 3 (some .int), Cond.fieldLink RX4 7 "LateDovesModel" "z" "[I", Cond.methodLink RX4 94 yX4_ownerOf, Cond.instanceMethod yX4_ownerOf, Cond.selects RX4 yX4_ownerOf yX4_ownerOf, Cond.code yX4_ownerOf cX4_ownerOf 4 (some .int), Cond.methodLink RX4 41 yX4_isOpen, Cond.instanceMethod yX4_isOpen, Cond.selects RX4 yX4_isOpen yX4_isOpen]
def wsX4_holeNow_r2 : List Cond := [Cond.code yX4_isOpen cX4_isOpen 2 (some .boolean)]
def wsX4_holeNow : List Cond := .code yX4_holeNow cX4_holeNow 3 (some .int) :: ((wsX4_holeNow_r1 ++ wsX4_holeNow_r2) ++ wsX40)
def wsX4_hole_r1 : List Cond := [Cond.fieldLink RX4 25 "LateDovesModel" "thrown" "I", Cond.methodLink RX4 58 yX4_isHole, Cond.static yX4_isHole, Cond.initialized RX4, Cond.code yX4_isHole cX4_isHole 1 (some .boolean), Cond.methodLink RX4 29 yX4_in, Cond.static yX4_in, Cond.code yX4_in cX4_in 3 (some .boolean), Cond.methodLink RX4 156 yX4_holeNow, Cond.instanceMethod yX4_holeNow, Cond.selects RX4 yX4_holeNow yX4_holeNow, Cond.code yX4_holeNow cX4_holeNow 3 (some .int), Cond.methodLink RX4 54 yX4_sitter, Cond.instanceMethod yX4_sitter, Cond.selects RX4 yX4_sitter yX4_sitter, Cond.code yX4_sitter cX4_sitter 4 (some .int), Cond.methodLink RX4 37 yX4_isDove, Cond.instanceMethod yX4_isDove, Cond.selects RX4 yX4_isDove yX4_isDove, Cond.code yX4_isDove cX4_isDove 2 (some .boolean), Cond.methodLink RX4 33 yX4_of, Cond.instanceMethod yX4_of, Cond.selects RX4 yX4_of yX4_of, Cond.code yX4_of cX4_of 3 (some .int)]
def wsX4_hole_r2 : List Cond := [Cond.fieldLink RX4 7 "LateDovesModel" "z" "[I", Cond.methodLink RX4 94 yX4_ownerOf, Cond.instanceMethod yX4_ownerOf, Cond.selects RX4 yX4_ownerOf yX4_ownerOf, Cond.code yX4_ownerOf cX4_ownerOf 4 (some .int), Cond.methodLink RX4 41 yX4_isOpen, Cond.instanceMethod yX4_isOpen, Cond.selects RX4 yX4_isOpen yX4_isOpen, Cond.code yX4_isOpen cX4_isOpen 2 (some .boolean)]
def wsX4_hole : List Cond := .code yX4_hole cX4_hole 3 (some .int) :: ((wsX4_hole_r1 ++ wsX4_hole_r2) ++ wsX40)
def wsX4_countNow_r1 : List Cond := [Cond.fieldLink RX4 7 "LateDovesModel" "z" "[I", Cond.fieldLink RX4 44 "LateDovesModel" "saves" "I", Cond.methodLink RX4 29 yX4_in, Cond.static yX4_in, Cond.initialized RX4, Cond.code yX4_in cX4_in 3 (some .boolean), Cond.methodLink RX4 91 yX4_allDoves, Cond.instanceMethod yX4_allDoves, Cond.selects RX4 yX4_allDoves yX4_allDoves, Cond.code yX4_allDoves cX4_allDoves 3 (some .int), Cond.methodLink RX4 33 yX4_of, Cond.instanceMethod yX4_of, Cond.selects RX4 yX4_of yX4_of, Cond.code yX4_of cX4_of 3 (some .int), Cond.methodLink RX4 84 yX4_dovesAt, Cond.instanceMethod yX4_dovesAt, Cond.selects RX4 yX4_dovesAt yX4_dovesAt, Cond.code yX4_dovesAt cX4_dovesAt 5 (some .int), Cond.methodLink RX4 37 yX4_isDove, Cond.instanceMethod yX4_isDove, Cond.selects RX4 yX4_isDove yX4_isDove, Cond.code yX4_isDove cX4_isDove 2 (some .boolean), Cond.methodLink RX4 115 yX4_openHoles, Cond.instanceMethod yX4_openHoles]
def wsX4_countNow_r2 : List Cond := [Cond.selects RX4 yX4_openHoles yX4_openHoles, Cond.code yX4_openHoles cX4_openHoles 3 (some .int), Cond.methodLink RX4 41 yX4_isOpen, Cond.instanceMethod yX4_isOpen, Cond.selects RX4 yX4_isOpen yX4_isOpen, Cond.code yX4_isOpen cX4_isOpen 2 (some .boolean), Cond.methodLink RX4 103 yX4_pairs, Cond.instanceMethod yX4_pairs, Cond.selects RX4 yX4_pairs yX4_pairs, Cond.code yX4_pairs cX4_pairs 3 (some .int)]
def wsX4_countNow : List Cond := .code yX4_countNow cX4_countNow 2 (some .int) :: ((wsX4_countNow_r1 ++ wsX4_countNow_r2) ++ wsX40)
def wsX4_count_r1 : List Cond := [Cond.fieldLink RX4 25 "LateDovesModel" "thrown" "I", Cond.methodLink RX4 29 yX4_in, Cond.static yX4_in, Cond.initialized RX4, Cond.code yX4_in cX4_in 3 (some .boolean), Cond.methodLink RX4 159 yX4_countNow, Cond.instanceMethod yX4_countNow, Cond.selects RX4 yX4_countNow yX4_countNow, Cond.code yX4_countNow cX4_countNow 2 (some .int), Cond.fieldLink RX4 7 "LateDovesModel" "z" "[I", Cond.fieldLink RX4 44 "LateDovesModel" "saves" "I", Cond.methodLink RX4 91 yX4_allDoves, Cond.instanceMethod yX4_allDoves, Cond.selects RX4 yX4_allDoves yX4_allDoves, Cond.code yX4_allDoves cX4_allDoves 3 (some .int), Cond.methodLink RX4 33 yX4_of, Cond.instanceMethod yX4_of, Cond.selects RX4 yX4_of yX4_of, Cond.code yX4_of cX4_of 3 (some .int), Cond.methodLink RX4 84 yX4_dovesAt, Cond.instanceMethod yX4_dovesAt, Cond.selects RX4 yX4_dovesAt yX4_dovesAt, Cond.code yX4_dovesAt cX4_dovesAt 5 (some .int), Cond.methodLink RX4 37 yX4_isDove]
def wsX4_count_r2 : List Cond := [Cond.instanceMethod yX4_isDove, Cond.selects RX4 yX4_isDove yX4_isDove, Cond.code yX4_isDove cX4_isDove 2 (some .boolean), Cond.methodLink RX4 115 yX4_openHoles, Cond.instanceMethod yX4_openHoles, Cond.selects RX4 yX4_openHoles yX4_openHoles, Cond.code yX4_openHoles cX4_openHoles 3 (some .int), Cond.methodLink RX4 41 yX4_isOpen, Cond.instanceMethod yX4_isOpen, Cond.selects RX4 yX4_isOpen yX4_isOpen, Cond.code yX4_isOpen cX4_isOpen 2 (some .boolean), Cond.methodLink RX4 103 yX4_pairs, Cond.instanceMethod yX4_pairs, Cond.selects RX4 yX4_pairs yX4_pairs, Cond.code yX4_pairs cX4_pairs 3 (some .int)]
def wsX4_count : List Cond := .code yX4_count cX4_count 2 (some .int) :: ((wsX4_count_r1 ++ wsX4_count_r2) ++ wsX40)
def wsX4_step : List Cond := .code yX4_step cX4_step 3 (some .int) :: ([.fieldLink RX4 25 "LateDovesModel" "thrown" "I", .fieldLink RX4 7 "LateDovesModel" "z" "[I", .methodLink RX4 29 yX4_in, .static yX4_in, .initialized RX4, .code yX4_in cX4_in 3 (some .boolean)] ++ wsX40)
def wsX4_whyNot : List Cond := .code yX4_whyNot cX4_whyNot 3 (some .int) :: ([.fieldLink RX4 25 "LateDovesModel" "thrown" "I", .methodLink RX4 37 yX4_isDove, .instanceMethod yX4_isDove, .selects RX4 yX4_isDove yX4_isDove, .initialized RX4, .code yX4_isDove cX4_isDove 2 (some .boolean), .methodLink RX4 29 yX4_in, .static yX4_in, .code yX4_in cX4_in 3 (some .boolean), .methodLink RX4 33 yX4_of, .instanceMethod yX4_of, .selects RX4 yX4_of yX4_of, .code yX4_of cX4_of 3 (some .int), .fieldLink RX4 7 "LateDovesModel" "z" "[I", .methodLink RX4 78 yX4_whyNoHome, .instanceMethod yX4_whyNoHome, .selects RX4 yX4_whyNoHome yX4_whyNoHome, .code yX4_whyNoHome cX4_whyNoHome 3 (some .int)] ++ wsX40)
def wsX4_homeIf_r1 : List Cond := [Cond.methodLink RX4 78 yX4_whyNoHome, Cond.instanceMethod yX4_whyNoHome, Cond.selects RX4 yX4_whyNoHome yX4_whyNoHome, Cond.initialized RX4, Cond.code yX4_whyNoHome cX4_whyNoHome 3 (some .int), Cond.fieldLink RX4 7 "LateDovesModel" "z" "[I", Cond.methodLink RX4 33 yX4_of, Cond.instanceMethod yX4_of, Cond.selects RX4 yX4_of yX4_of, Cond.code yX4_of cX4_of 3 (some .int), Cond.methodLink RX4 162 yX4_putAside, Cond.instanceMethod yX4_putAside, Cond.selects RX4 yX4_putAside yX4_putAside, Cond.code yX4_putAside cX4_putAside 2 none, Cond.fieldLink RX4 13 "LateDovesModel" "aside" "[I", Cond.methodLink RX4 84 yX4_dovesAt, Cond.instanceMethod yX4_dovesAt, Cond.selects RX4 yX4_dovesAt yX4_dovesAt, Cond.code yX4_dovesAt cX4_dovesAt 5 (some .int), Cond.methodLink RX4 37 yX4_isDove, Cond.instanceMethod yX4_isDove, Cond.selects RX4 yX4_isDove yX4_isDove, Cond.code yX4_isDove cX4_isDove 2 (some .boolean), Cond.methodLink RX4 29 yX4_in]
def wsX4_homeIf_r2 : List Cond := [Cond.static yX4_in, Cond.code yX4_in cX4_in 3 (some .boolean), Cond.methodLink RX4 81 yX4_doHome, Cond.instanceMethod yX4_doHome, Cond.selects RX4 yX4_doHome yX4_doHome, Cond.code yX4_doHome cX4_doHome 10 (some .int), Cond.methodLink RX4 64 yX4_put, Cond.instanceMethod yX4_put, Cond.selects RX4 yX4_put yX4_put, Cond.code yX4_put cX4_put 4 none, Cond.methodLink RX4 41 yX4_isOpen, Cond.instanceMethod yX4_isOpen, Cond.selects RX4 yX4_isOpen yX4_isOpen, Cond.code yX4_isOpen cX4_isOpen 2 (some .boolean), Cond.methodLink RX4 54 yX4_sitter, Cond.instanceMethod yX4_sitter, Cond.selects RX4 yX4_sitter yX4_sitter, Cond.code yX4_sitter cX4_sitter 4 (some .int), Cond.methodLink RX4 68 yX4_countShift, Cond.instanceMethod yX4_countShift, Cond.selects RX4 yX4_countShift yX4_countShift, Cond.code yX4_countShift cX4_countShift 3 none, Cond.methodLink RX4 72 yX4_sit, Cond.instanceMethod yX4_sit]
def wsX4_homeIf_r3 : List Cond := [Cond.selects RX4 yX4_sit yX4_sit, Cond.code yX4_sit cX4_sit 3 none, Cond.methodLink RX4 75 yX4_freeFor, Cond.instanceMethod yX4_freeFor, Cond.selects RX4 yX4_freeFor yX4_freeFor, Cond.code yX4_freeFor cX4_freeFor 5 (some .int), Cond.methodLink RX4 58 yX4_isHole, Cond.static yX4_isHole, Cond.code yX4_isHole cX4_isHole 1 (some .boolean), Cond.methodLink RX4 61 yX4_isFree, Cond.instanceMethod yX4_isFree, Cond.selects RX4 yX4_isFree yX4_isFree, Cond.code yX4_isFree cX4_isFree 2 (some .boolean), Cond.methodLink RX4 165 yX4_putBack, Cond.instanceMethod yX4_putBack, Cond.selects RX4 yX4_putBack yX4_putBack, Cond.code yX4_putBack cX4_putBack 2 none]
def wsX4_homeIf : List Cond := .code yX4_homeIf cX4_homeIf 7 (some .int) :: ((wsX4_homeIf_r1 ++ (wsX4_homeIf_r2 ++ wsX4_homeIf_r3)) ++ wsX40)
def wsX4_ifHome_r1 : List Cond := [Cond.fieldLink RX4 25 "LateDovesModel" "thrown" "I", Cond.methodLink RX4 37 yX4_isDove, Cond.instanceMethod yX4_isDove, Cond.selects RX4 yX4_isDove yX4_isDove, Cond.initialized RX4, Cond.code yX4_isDove cX4_isDove 2 (some .boolean), Cond.methodLink RX4 29 yX4_in, Cond.static yX4_in, Cond.code yX4_in cX4_in 3 (some .boolean), Cond.methodLink RX4 33 yX4_of, Cond.instanceMethod yX4_of, Cond.selects RX4 yX4_of yX4_of, Cond.code yX4_of cX4_of 3 (some .int), Cond.fieldLink RX4 7 "LateDovesModel" "z" "[I", Cond.methodLink RX4 168 yX4_homeIf, Cond.instanceMethod yX4_homeIf, Cond.selects RX4 yX4_homeIf yX4_homeIf, Cond.code yX4_homeIf cX4_homeIf 7 (some .int), Cond.methodLink RX4 78 yX4_whyNoHome, Cond.instanceMethod yX4_whyNoHome, Cond.selects RX4 yX4_whyNoHome yX4_whyNoHome, Cond.code yX4_whyNoHome cX4_whyNoHome 3 (some .int), Cond.methodLink RX4 162 yX4_putAside, Cond.instanceMethod yX4_putAside]
def wsX4_ifHome_r2 : List Cond := [Cond.selects RX4 yX4_putAside yX4_putAside, Cond.code yX4_putAside cX4_putAside 2 none, Cond.fieldLink RX4 13 "LateDovesModel" "aside" "[I", Cond.methodLink RX4 84 yX4_dovesAt, Cond.instanceMethod yX4_dovesAt, Cond.selects RX4 yX4_dovesAt yX4_dovesAt, Cond.code yX4_dovesAt cX4_dovesAt 5 (some .int), Cond.methodLink RX4 81 yX4_doHome, Cond.instanceMethod yX4_doHome, Cond.selects RX4 yX4_doHome yX4_doHome, Cond.code yX4_doHome cX4_doHome 10 (some .int), Cond.methodLink RX4 64 yX4_put, Cond.instanceMethod yX4_put, Cond.selects RX4 yX4_put yX4_put, Cond.code yX4_put cX4_put 4 none, Cond.methodLink RX4 41 yX4_isOpen, Cond.instanceMethod yX4_isOpen, Cond.selects RX4 yX4_isOpen yX4_isOpen, Cond.code yX4_isOpen cX4_isOpen 2 (some .boolean), Cond.methodLink RX4 54 yX4_sitter, Cond.instanceMethod yX4_sitter, Cond.selects RX4 yX4_sitter yX4_sitter, Cond.code yX4_sitter cX4_sitter 4 (some .int), Cond.methodLink RX4 68 yX4_countShift]
def wsX4_ifHome_r3 : List Cond := [Cond.instanceMethod yX4_countShift, Cond.selects RX4 yX4_countShift yX4_countShift, Cond.code yX4_countShift cX4_countShift 3 none, Cond.methodLink RX4 72 yX4_sit, Cond.instanceMethod yX4_sit, Cond.selects RX4 yX4_sit yX4_sit, Cond.code yX4_sit cX4_sit 3 none, Cond.methodLink RX4 75 yX4_freeFor, Cond.instanceMethod yX4_freeFor, Cond.selects RX4 yX4_freeFor yX4_freeFor, Cond.code yX4_freeFor cX4_freeFor 5 (some .int), Cond.methodLink RX4 58 yX4_isHole, Cond.static yX4_isHole, Cond.code yX4_isHole cX4_isHole 1 (some .boolean), Cond.methodLink RX4 61 yX4_isFree, Cond.instanceMethod yX4_isFree, Cond.selects RX4 yX4_isFree yX4_isFree, Cond.code yX4_isFree cX4_isFree 2 (some .boolean), Cond.methodLink RX4 165 yX4_putBack, Cond.instanceMethod yX4_putBack, Cond.selects RX4 yX4_putBack yX4_putBack, Cond.code yX4_putBack cX4_putBack 2 none]
def wsX4_ifHome : List Cond := .code yX4_ifHome cX4_ifHome 4 (some .int) :: ((wsX4_ifHome_r1 ++ (wsX4_ifHome_r2 ++ wsX4_ifHome_r3)) ++ wsX40)
def wsX4_findHole : List Cond := .code yX4_findHole cX4_findHole 3 (some .int) :: ([.methodLink RX4 41 yX4_isOpen, .instanceMethod yX4_isOpen, .selects RX4 yX4_isOpen yX4_isOpen, .initialized RX4, .code yX4_isOpen cX4_isOpen 2 (some .boolean), .fieldLink RX4 7 "LateDovesModel" "z" "[I", .methodLink RX4 94 yX4_ownerOf, .instanceMethod yX4_ownerOf, .selects RX4 yX4_ownerOf yX4_ownerOf, .code yX4_ownerOf cX4_ownerOf 4 (some .int), .methodLink RX4 37 yX4_isDove, .instanceMethod yX4_isDove, .selects RX4 yX4_isDove yX4_isDove, .code yX4_isDove cX4_isDove 2 (some .boolean), .methodLink RX4 29 yX4_in, .static yX4_in, .code yX4_in cX4_in 3 (some .boolean), .methodLink RX4 33 yX4_of, .instanceMethod yX4_of, .selects RX4 yX4_of yX4_of, .code yX4_of cX4_of 3 (some .int)] ++ wsX40)
def wsX4_freeHole_r1 : List Cond := [Cond.fieldLink RX4 25 "LateDovesModel" "thrown" "I", Cond.methodLink RX4 171 yX4_findHole, Cond.instanceMethod yX4_findHole, Cond.selects RX4 yX4_findHole yX4_findHole, Cond.initialized RX4, Cond.code yX4_findHole cX4_findHole 3 (some .int), Cond.methodLink RX4 41 yX4_isOpen, Cond.instanceMethod yX4_isOpen, Cond.selects RX4 yX4_isOpen yX4_isOpen, Cond.code yX4_isOpen cX4_isOpen 2 (some .boolean), Cond.fieldLink RX4 7 "LateDovesModel" "z" "[I", Cond.methodLink RX4 94 yX4_ownerOf, Cond.instanceMethod yX4_ownerOf, Cond.selects RX4 yX4_ownerOf yX4_ownerOf, Cond.code yX4_ownerOf cX4_ownerOf 4 (some .int), Cond.methodLink RX4 37 yX4_isDove, Cond.instanceMethod yX4_isDove, Cond.selects RX4 yX4_isDove yX4_isDove, Cond.code yX4_isDove cX4_isDove 2 (some .boolean), Cond.methodLink RX4 29 yX4_in, Cond.static yX4_in, Cond.code yX4_in cX4_in 3 (some .boolean), Cond.methodLink RX4 33 yX4_of, Cond.instanceMethod yX4_of]
def wsX4_freeHole_r2 : List Cond := [Cond.selects RX4 yX4_of yX4_of, Cond.code yX4_of cX4_of 3 (some .int)]
def wsX4_freeHole : List Cond := .code yX4_freeHole cX4_freeHole 1 (some .int) :: ((wsX4_freeHole_r1 ++ wsX4_freeHole_r2) ++ wsX40)
def wsX4_inHolesIf_r1 : List Cond := [Cond.methodLink RX4 162 yX4_putAside, Cond.instanceMethod yX4_putAside, Cond.selects RX4 yX4_putAside yX4_putAside, Cond.initialized RX4, Cond.code yX4_putAside cX4_putAside 2 none, Cond.fieldLink RX4 13 "LateDovesModel" "aside" "[I", Cond.fieldLink RX4 7 "LateDovesModel" "z" "[I", Cond.methodLink RX4 37 yX4_isDove, Cond.instanceMethod yX4_isDove, Cond.selects RX4 yX4_isDove yX4_isDove, Cond.code yX4_isDove cX4_isDove 2 (some .boolean), Cond.methodLink RX4 29 yX4_in, Cond.static yX4_in, Cond.code yX4_in cX4_in 3 (some .boolean), Cond.methodLink RX4 33 yX4_of, Cond.instanceMethod yX4_of, Cond.selects RX4 yX4_of yX4_of, Cond.code yX4_of cX4_of 3 (some .int), Cond.methodLink RX4 81 yX4_doHome, Cond.instanceMethod yX4_doHome, Cond.selects RX4 yX4_doHome yX4_doHome, Cond.code yX4_doHome cX4_doHome 10 (some .int), Cond.methodLink RX4 64 yX4_put, Cond.instanceMethod yX4_put]
def wsX4_inHolesIf_r2 : List Cond := [Cond.selects RX4 yX4_put yX4_put, Cond.code yX4_put cX4_put 4 none, Cond.methodLink RX4 41 yX4_isOpen, Cond.instanceMethod yX4_isOpen, Cond.selects RX4 yX4_isOpen yX4_isOpen, Cond.code yX4_isOpen cX4_isOpen 2 (some .boolean), Cond.methodLink RX4 54 yX4_sitter, Cond.instanceMethod yX4_sitter, Cond.selects RX4 yX4_sitter yX4_sitter, Cond.code yX4_sitter cX4_sitter 4 (some .int), Cond.methodLink RX4 68 yX4_countShift, Cond.instanceMethod yX4_countShift, Cond.selects RX4 yX4_countShift yX4_countShift, Cond.code yX4_countShift cX4_countShift 3 none, Cond.methodLink RX4 72 yX4_sit, Cond.instanceMethod yX4_sit, Cond.selects RX4 yX4_sit yX4_sit, Cond.code yX4_sit cX4_sit 3 none, Cond.methodLink RX4 75 yX4_freeFor, Cond.instanceMethod yX4_freeFor, Cond.selects RX4 yX4_freeFor yX4_freeFor, Cond.code yX4_freeFor cX4_freeFor 5 (some .int), Cond.methodLink RX4 58 yX4_isHole, Cond.static yX4_isHole]
def wsX4_inHolesIf_r3 : List Cond := [Cond.code yX4_isHole cX4_isHole 1 (some .boolean), Cond.methodLink RX4 61 yX4_isFree, Cond.instanceMethod yX4_isFree, Cond.selects RX4 yX4_isFree yX4_isFree, Cond.code yX4_isFree cX4_isFree 2 (some .boolean), Cond.methodLink RX4 84 yX4_dovesAt, Cond.instanceMethod yX4_dovesAt, Cond.selects RX4 yX4_dovesAt yX4_dovesAt, Cond.code yX4_dovesAt cX4_dovesAt 5 (some .int), Cond.methodLink RX4 165 yX4_putBack, Cond.instanceMethod yX4_putBack, Cond.selects RX4 yX4_putBack yX4_putBack, Cond.code yX4_putBack cX4_putBack 2 none]
def wsX4_inHolesIf : List Cond := .code yX4_inHolesIf cX4_inHolesIf 3 (some .int) :: ((wsX4_inHolesIf_r1 ++ (wsX4_inHolesIf_r2 ++ wsX4_inHolesIf_r3)) ++ wsX40)
def wsX4_asGood_r1 : List Cond := [Cond.fieldLink RX4 7 "LateDovesModel" "z" "[I", Cond.methodLink RX4 174 yX4_inHolesIf, Cond.instanceMethod yX4_inHolesIf, Cond.selects RX4 yX4_inHolesIf yX4_inHolesIf, Cond.initialized RX4, Cond.code yX4_inHolesIf cX4_inHolesIf 3 (some .int), Cond.methodLink RX4 162 yX4_putAside, Cond.instanceMethod yX4_putAside, Cond.selects RX4 yX4_putAside yX4_putAside, Cond.code yX4_putAside cX4_putAside 2 none, Cond.fieldLink RX4 13 "LateDovesModel" "aside" "[I", Cond.methodLink RX4 37 yX4_isDove, Cond.instanceMethod yX4_isDove, Cond.selects RX4 yX4_isDove yX4_isDove, Cond.code yX4_isDove cX4_isDove 2 (some .boolean), Cond.methodLink RX4 29 yX4_in, Cond.static yX4_in, Cond.code yX4_in cX4_in 3 (some .boolean), Cond.methodLink RX4 33 yX4_of, Cond.instanceMethod yX4_of, Cond.selects RX4 yX4_of yX4_of, Cond.code yX4_of cX4_of 3 (some .int), Cond.methodLink RX4 81 yX4_doHome, Cond.instanceMethod yX4_doHome]
def wsX4_asGood_r2 : List Cond := [Cond.selects RX4 yX4_doHome yX4_doHome, Cond.code yX4_doHome cX4_doHome 10 (some .int), Cond.methodLink RX4 64 yX4_put, Cond.instanceMethod yX4_put, Cond.selects RX4 yX4_put yX4_put, Cond.code yX4_put cX4_put 4 none, Cond.methodLink RX4 41 yX4_isOpen, Cond.instanceMethod yX4_isOpen, Cond.selects RX4 yX4_isOpen yX4_isOpen, Cond.code yX4_isOpen cX4_isOpen 2 (some .boolean), Cond.methodLink RX4 54 yX4_sitter, Cond.instanceMethod yX4_sitter, Cond.selects RX4 yX4_sitter yX4_sitter, Cond.code yX4_sitter cX4_sitter 4 (some .int), Cond.methodLink RX4 68 yX4_countShift, Cond.instanceMethod yX4_countShift, Cond.selects RX4 yX4_countShift yX4_countShift, Cond.code yX4_countShift cX4_countShift 3 none, Cond.methodLink RX4 72 yX4_sit, Cond.instanceMethod yX4_sit, Cond.selects RX4 yX4_sit yX4_sit, Cond.code yX4_sit cX4_sit 3 none, Cond.methodLink RX4 75 yX4_freeFor, Cond.instanceMethod yX4_freeFor]
def wsX4_asGood_r3 : List Cond := [Cond.selects RX4 yX4_freeFor yX4_freeFor, Cond.code yX4_freeFor cX4_freeFor 5 (some .int), Cond.methodLink RX4 58 yX4_isHole, Cond.static yX4_isHole, Cond.code yX4_isHole cX4_isHole 1 (some .boolean), Cond.methodLink RX4 61 yX4_isFree, Cond.instanceMethod yX4_isFree, Cond.selects RX4 yX4_isFree yX4_isFree, Cond.code yX4_isFree cX4_isFree 2 (some .boolean), Cond.methodLink RX4 84 yX4_dovesAt, Cond.instanceMethod yX4_dovesAt, Cond.selects RX4 yX4_dovesAt yX4_dovesAt, Cond.code yX4_dovesAt cX4_dovesAt 5 (some .int), Cond.methodLink RX4 165 yX4_putBack, Cond.instanceMethod yX4_putBack, Cond.selects RX4 yX4_putBack yX4_putBack, Cond.code yX4_putBack cX4_putBack 2 none]
def wsX4_asGood : List Cond := .code yX4_asGood cX4_asGood 1 (some .int) :: ((wsX4_asGood_r1 ++ (wsX4_asGood_r2 ++ wsX4_asGood_r3)) ++ wsX40)
def wsX4_lateIsAsGood_r1 : List Cond := [Cond.fieldLink RX4 25 "LateDovesModel" "thrown" "I", Cond.methodLink RX4 177 yX4_asGood, Cond.instanceMethod yX4_asGood, Cond.selects RX4 yX4_asGood yX4_asGood, Cond.initialized RX4, Cond.code yX4_asGood cX4_asGood 1 (some .int), Cond.fieldLink RX4 7 "LateDovesModel" "z" "[I", Cond.methodLink RX4 174 yX4_inHolesIf, Cond.instanceMethod yX4_inHolesIf, Cond.selects RX4 yX4_inHolesIf yX4_inHolesIf, Cond.code yX4_inHolesIf cX4_inHolesIf 3 (some .int), Cond.methodLink RX4 162 yX4_putAside, Cond.instanceMethod yX4_putAside, Cond.selects RX4 yX4_putAside yX4_putAside, Cond.code yX4_putAside cX4_putAside 2 none, Cond.fieldLink RX4 13 "LateDovesModel" "aside" "[I", Cond.methodLink RX4 37 yX4_isDove, Cond.instanceMethod yX4_isDove, Cond.selects RX4 yX4_isDove yX4_isDove, Cond.code yX4_isDove cX4_isDove 2 (some .boolean), Cond.methodLink RX4 29 yX4_in, Cond.static yX4_in, Cond.code yX4_in cX4_in 3 (some .boolean), Cond.methodLink RX4 33 yX4_of]
def wsX4_lateIsAsGood_r2 : List Cond := [Cond.instanceMethod yX4_of, Cond.selects RX4 yX4_of yX4_of, Cond.code yX4_of cX4_of 3 (some .int), Cond.methodLink RX4 81 yX4_doHome, Cond.instanceMethod yX4_doHome, Cond.selects RX4 yX4_doHome yX4_doHome, Cond.code yX4_doHome cX4_doHome 10 (some .int), Cond.methodLink RX4 64 yX4_put, Cond.instanceMethod yX4_put, Cond.selects RX4 yX4_put yX4_put, Cond.code yX4_put cX4_put 4 none, Cond.methodLink RX4 41 yX4_isOpen, Cond.instanceMethod yX4_isOpen, Cond.selects RX4 yX4_isOpen yX4_isOpen, Cond.code yX4_isOpen cX4_isOpen 2 (some .boolean), Cond.methodLink RX4 54 yX4_sitter, Cond.instanceMethod yX4_sitter, Cond.selects RX4 yX4_sitter yX4_sitter, Cond.code yX4_sitter cX4_sitter 4 (some .int), Cond.methodLink RX4 68 yX4_countShift, Cond.instanceMethod yX4_countShift, Cond.selects RX4 yX4_countShift yX4_countShift, Cond.code yX4_countShift cX4_countShift 3 none, Cond.methodLink RX4 72 yX4_sit]
def wsX4_lateIsAsGood_r3 : List Cond := [Cond.instanceMethod yX4_sit, Cond.selects RX4 yX4_sit yX4_sit, Cond.code yX4_sit cX4_sit 3 none, Cond.methodLink RX4 75 yX4_freeFor, Cond.instanceMethod yX4_freeFor, Cond.selects RX4 yX4_freeFor yX4_freeFor, Cond.code yX4_freeFor cX4_freeFor 5 (some .int), Cond.methodLink RX4 58 yX4_isHole, Cond.static yX4_isHole, Cond.code yX4_isHole cX4_isHole 1 (some .boolean), Cond.methodLink RX4 61 yX4_isFree, Cond.instanceMethod yX4_isFree, Cond.selects RX4 yX4_isFree yX4_isFree, Cond.code yX4_isFree cX4_isFree 2 (some .boolean), Cond.methodLink RX4 84 yX4_dovesAt, Cond.instanceMethod yX4_dovesAt, Cond.selects RX4 yX4_dovesAt yX4_dovesAt, Cond.code yX4_dovesAt cX4_dovesAt 5 (some .int), Cond.methodLink RX4 165 yX4_putBack, Cond.instanceMethod yX4_putBack, Cond.selects RX4 yX4_putBack yX4_putBack, Cond.code yX4_putBack cX4_putBack 2 none]
def wsX4_lateIsAsGood : List Cond := .code yX4_lateIsAsGood cX4_lateIsAsGood 1 (some .int) :: ((wsX4_lateIsAsGood_r1 ++ (wsX4_lateIsAsGood_r2 ++ wsX4_lateIsAsGood_r3)) ++ wsX40)
def wsX4_share : List Cond := .code yX4_share cX4_share 3 (some .double) :: ([.methodLink RX4 37 yX4_isDove, .instanceMethod yX4_isDove, .selects RX4 yX4_isDove yX4_isDove, .initialized RX4, .code yX4_isDove cX4_isDove 2 (some .boolean), .methodLink RX4 29 yX4_in, .static yX4_in, .code yX4_in cX4_in 3 (some .boolean), .methodLink RX4 33 yX4_of, .instanceMethod yX4_of, .selects RX4 yX4_of yX4_of, .code yX4_of cX4_of 3 (some .int), .fieldLink RX4 7 "LateDovesModel" "z" "[I", .methodLink RX4 91 yX4_allDoves, .instanceMethod yX4_allDoves, .selects RX4 yX4_allDoves yX4_allDoves, .code yX4_allDoves cX4_allDoves 3 (some .int)] ++ wsX40)
def wsX4_homeShare : List Cond := .code yX4_homeShare cX4_homeShare 1 (some .double) :: ([.fieldLink RX4 25 "LateDovesModel" "thrown" "I", .methodLink RX4 180 yX4_share, .instanceMethod yX4_share, .selects RX4 yX4_share yX4_share, .initialized RX4, .code yX4_share cX4_share 3 (some .double), .methodLink RX4 37 yX4_isDove, .instanceMethod yX4_isDove, .selects RX4 yX4_isDove yX4_isDove, .code yX4_isDove cX4_isDove 2 (some .boolean), .methodLink RX4 29 yX4_in, .static yX4_in, .code yX4_in cX4_in 3 (some .boolean), .methodLink RX4 33 yX4_of, .instanceMethod yX4_of, .selects RX4 yX4_of yX4_of, .code yX4_of cX4_of 3 (some .int), .fieldLink RX4 7 "LateDovesModel" "z" "[I", .methodLink RX4 91 yX4_allDoves, .instanceMethod yX4_allDoves, .selects RX4 yX4_allDoves yX4_allDoves, .code yX4_allDoves cX4_allDoves 3 (some .int)] ++ wsX40)
def wsJxe99ae_isNaN_b9ae7 : List Cond := .code yJxe99ae_isNaN_b9ae7 cJxe99ae_isNaN_b9ae7 2 (some .boolean) :: ([])
def wsJxe99ae_doubleToLongBits_ccdee : List Cond := .code yJxe99ae_doubleToLongBits_ccdee cJxe99ae_doubleToLongBits_ccdee 2 (some .long) :: ([.methodLink RJxe99ae 134 ⟨"java/lang/Double", "doubleToRawLongBits", "(D)J"⟩, .native ⟨"java/lang/Double", "doubleToRawLongBits", "(D)J"⟩, .static ⟨"java/lang/Double", "doubleToRawLongBits", "(D)J"⟩, .initialized "java/lang/Double", .constantLong RJxe99ae 137 (9221120237041090560), .methodLink RJxe99ae 122 yJxe99ae_isNaN_b9ae7, .static yJxe99ae_isNaN_b9ae7, .initialized RJxe99ae, .code yJxe99ae_isNaN_b9ae7 cJxe99ae_isNaN_b9ae7 2 (some .boolean)])
def wsX4_digest_r1 : List Cond := [Cond.fieldLink RX4 25 "LateDovesModel" "thrown" "I", Cond.constantLong RX4 184 (3889), Cond.constantLong RX4 186 (31), Cond.fieldLink RX4 7 "LateDovesModel" "z" "[I", Cond.fieldLink RX4 118 "LateDovesModel" "length" "I", Cond.fieldLink RX4 22 "LateDovesModel" "text" "[I", Cond.methodLink RX4 159 yX4_countNow, Cond.instanceMethod yX4_countNow, Cond.selects RX4 yX4_countNow yX4_countNow, Cond.initialized RX4, Cond.code yX4_countNow cX4_countNow 2 (some .int), Cond.fieldLink RX4 44 "LateDovesModel" "saves" "I", Cond.methodLink RX4 29 yX4_in, Cond.static yX4_in, Cond.code yX4_in cX4_in 3 (some .boolean), Cond.methodLink RX4 91 yX4_allDoves, Cond.instanceMethod yX4_allDoves, Cond.selects RX4 yX4_allDoves yX4_allDoves, Cond.code yX4_allDoves cX4_allDoves 3 (some .int), Cond.methodLink RX4 33 yX4_of, Cond.instanceMethod yX4_of, Cond.selects RX4 yX4_of yX4_of, Cond.code yX4_of cX4_of 3 (some .int), Cond.methodLink RX4 84 yX4_dovesAt]
def wsX4_digest_r2 : List Cond := [Cond.instanceMethod yX4_dovesAt, Cond.selects RX4 yX4_dovesAt yX4_dovesAt, Cond.code yX4_dovesAt cX4_dovesAt 5 (some .int), Cond.methodLink RX4 37 yX4_isDove, Cond.instanceMethod yX4_isDove, Cond.selects RX4 yX4_isDove yX4_isDove, Cond.code yX4_isDove cX4_isDove 2 (some .boolean), Cond.methodLink RX4 115 yX4_openHoles, Cond.instanceMethod yX4_openHoles, Cond.selects RX4 yX4_openHoles yX4_openHoles, Cond.code yX4_openHoles cX4_openHoles 3 (some .int), Cond.methodLink RX4 41 yX4_isOpen, Cond.instanceMethod yX4_isOpen, Cond.selects RX4 yX4_isOpen yX4_isOpen, Cond.code yX4_isOpen cX4_isOpen 2 (some .boolean), Cond.methodLink RX4 103 yX4_pairs, Cond.instanceMethod yX4_pairs, Cond.selects RX4 yX4_pairs yX4_pairs, Cond.code yX4_pairs cX4_pairs 3 (some .int), Cond.methodLink RX4 153 yX4_doveNow, Cond.instanceMethod yX4_doveNow, Cond.selects RX4 yX4_doveNow yX4_doveNow, Cond.code yX4_doveNow cX4_doveNow 3 (some .int), Cond.methodLink RX4 78 yX4_whyNoHome]
def wsX4_digest_r3 : List Cond := [Cond.instanceMethod yX4_whyNoHome, Cond.selects RX4 yX4_whyNoHome yX4_whyNoHome, Cond.code yX4_whyNoHome cX4_whyNoHome 3 (some .int), Cond.methodLink RX4 168 yX4_homeIf, Cond.instanceMethod yX4_homeIf, Cond.selects RX4 yX4_homeIf yX4_homeIf, Cond.code yX4_homeIf cX4_homeIf 7 (some .int), Cond.methodLink RX4 162 yX4_putAside, Cond.instanceMethod yX4_putAside, Cond.selects RX4 yX4_putAside yX4_putAside, Cond.code yX4_putAside cX4_putAside 2 none, Cond.fieldLink RX4 13 "LateDovesModel" "aside" "[I", Cond.methodLink RX4 81 yX4_doHome, Cond.instanceMethod yX4_doHome, Cond.selects RX4 yX4_doHome yX4_doHome, Cond.code yX4_doHome cX4_doHome 10 (some .int), Cond.methodLink RX4 64 yX4_put, Cond.instanceMethod yX4_put, Cond.selects RX4 yX4_put yX4_put, Cond.code yX4_put cX4_put 4 none, Cond.methodLink RX4 54 yX4_sitter, Cond.instanceMethod yX4_sitter, Cond.selects RX4 yX4_sitter yX4_sitter, Cond.code yX4_sitter cX4_sitter 4 (some .int)]
def wsX4_digest_r4 : List Cond := [Cond.methodLink RX4 68 yX4_countShift, Cond.instanceMethod yX4_countShift, Cond.selects RX4 yX4_countShift yX4_countShift, Cond.code yX4_countShift cX4_countShift 3 none, Cond.methodLink RX4 72 yX4_sit, Cond.instanceMethod yX4_sit, Cond.selects RX4 yX4_sit yX4_sit, Cond.code yX4_sit cX4_sit 3 none, Cond.methodLink RX4 75 yX4_freeFor, Cond.instanceMethod yX4_freeFor, Cond.selects RX4 yX4_freeFor yX4_freeFor, Cond.code yX4_freeFor cX4_freeFor 5 (some .int), Cond.methodLink RX4 58 yX4_isHole, Cond.static yX4_isHole, Cond.code yX4_isHole cX4_isHole 1 (some .boolean), Cond.methodLink RX4 61 yX4_isFree, Cond.instanceMethod yX4_isFree, Cond.selects RX4 yX4_isFree yX4_isFree, Cond.code yX4_isFree cX4_isFree 2 (some .boolean), Cond.methodLink RX4 165 yX4_putBack, Cond.instanceMethod yX4_putBack, Cond.selects RX4 yX4_putBack yX4_putBack, Cond.code yX4_putBack cX4_putBack 2 none, Cond.methodLink RX4 156 yX4_holeNow]
def wsX4_digest_r5 : List Cond := [Cond.instanceMethod yX4_holeNow, Cond.selects RX4 yX4_holeNow yX4_holeNow, Cond.code yX4_holeNow cX4_holeNow 3 (some .int), Cond.methodLink RX4 94 yX4_ownerOf, Cond.instanceMethod yX4_ownerOf, Cond.selects RX4 yX4_ownerOf yX4_ownerOf, Cond.code yX4_ownerOf cX4_ownerOf 4 (some .int), Cond.methodLink RX4 171 yX4_findHole, Cond.instanceMethod yX4_findHole, Cond.selects RX4 yX4_findHole yX4_findHole, Cond.code yX4_findHole cX4_findHole 3 (some .int), Cond.methodLink RX4 177 yX4_asGood, Cond.instanceMethod yX4_asGood, Cond.selects RX4 yX4_asGood yX4_asGood, Cond.code yX4_asGood cX4_asGood 1 (some .int), Cond.methodLink RX4 174 yX4_inHolesIf, Cond.instanceMethod yX4_inHolesIf, Cond.selects RX4 yX4_inHolesIf yX4_inHolesIf, Cond.code yX4_inHolesIf cX4_inHolesIf 3 (some .int), Cond.methodLink RX4 180 yX4_share, Cond.instanceMethod yX4_share, Cond.selects RX4 yX4_share yX4_share, Cond.code yX4_share cX4_share 3 (some .double), Cond.methodLink RX4 188 yJxe99ae_doubleToLongBits_ccdee]
def wsX4_digest_r6 : List Cond := [Cond.static yJxe99ae_doubleToLongBits_ccdee, Cond.initialized RJxe99ae, Cond.code yJxe99ae_doubleToLongBits_ccdee cJxe99ae_doubleToLongBits_ccdee 2 (some .long), Cond.methodLink RJxe99ae 134 ⟨"java/lang/Double", "doubleToRawLongBits", "(D)J"⟩, Cond.native ⟨"java/lang/Double", "doubleToRawLongBits", "(D)J"⟩, Cond.static ⟨"java/lang/Double", "doubleToRawLongBits", "(D)J"⟩, Cond.initialized "java/lang/Double", Cond.constantLong RJxe99ae 137 (9221120237041090560), Cond.methodLink RJxe99ae 122 yJxe99ae_isNaN_b9ae7, Cond.static yJxe99ae_isNaN_b9ae7, Cond.code yJxe99ae_isNaN_b9ae7 cJxe99ae_isNaN_b9ae7 2 (some .boolean)]
def wsX4_digest : List Cond := .code yX4_digest cX4_digest 5 (some .long) :: ((wsX4_digest_r1 ++ (wsX4_digest_r2 ++ (wsX4_digest_r3 ++ (wsX4_digest_r4 ++ (wsX4_digest_r5 ++ wsX4_digest_r6))))) ++ wsX40)
def wsL_buy_r1 : List Cond := [Cond.classLink RL 13 "java/lang/IndexOutOfBoundsException", Cond.classLink RL 15 "java/lang/IllegalArgumentException", Cond.classLink RL 17 "java/lang/IllegalStateException", Cond.methodLink RL 7 yX3_buy, Cond.instanceMethod yX3_buy, Cond.selects RX3 yX3_buy yX3_buy, Cond.initialized RX3, Cond.code yX3_buy cX3_buy 3 (some .int), Cond.classLink RX3 52 "java/lang/IllegalArgumentException", Cond.initialized "java/lang/IllegalArgumentException", Cond.classLink RX3 63 "java/lang/IllegalStateException", Cond.initialized "java/lang/IllegalStateException", Cond.fieldLink RX3 10 "LateDoves" "now" "LLateDoves$Cote;", Cond.methodLink RX3 48 yX3_needHole, Cond.static yX3_needHole, Cond.code yX3_needHole cX3_needHole 1 none, Cond.classLink RX3 105 "java/lang/IndexOutOfBoundsException", Cond.initialized "java/lang/IndexOutOfBoundsException", Cond.methodLink RX3 257 yX3_isHole, Cond.static yX3_isHole, Cond.code yX3_isHole cX3_isHole 1 (some .boolean), Cond.methodLink RX3 59 yX0_reasonNotToBuy, Cond.instanceMethod yX0_reasonNotToBuy, Cond.selects RX0 yX0_reasonNotToBuy yX0_reasonNotToBuy]
def wsL_buy_r2 : List Cond := [Cond.initialized RX0, Cond.code yX0_reasonNotToBuy cX0_reasonNotToBuy 2 (some .int), Cond.fieldLink RX0 16 "LateDoves$Cote" "holes" "[[I", Cond.methodLink RX0 66 yX0_doveCount, Cond.instanceMethod yX0_doveCount, Cond.selects RX0 yX0_doveCount yX0_doveCount, Cond.code yX0_doveCount cX0_doveCount 3 (some .int), Cond.methodLink RX0 86 yX0_exists, Cond.instanceMethod yX0_exists, Cond.selects RX0 yX0_exists yX0_exists, Cond.code yX0_exists cX0_exists 2 (some .boolean), Cond.fieldLink RX0 11 "LateDoves$Cote" "doves" "[[I", Cond.methodLink RX0 63 yX0_isOpen, Cond.instanceMethod yX0_isOpen, Cond.selects RX0 yX0_isOpen yX0_isOpen, Cond.code yX0_isOpen cX0_isOpen 2 (some .boolean), Cond.methodLink RX3 68 yX3_save, Cond.instanceMethod yX3_save, Cond.selects RX3 yX3_save yX3_save, Cond.code yX3_save cX3_save 3 none, Cond.fieldLink RX3 30 "LateDoves" "savedCount" "I", Cond.fieldLink RX3 26 "LateDoves" "saved" "[LLateDoves$Cote;", Cond.methodLink RX3 159 yX0_copyFrom, Cond.instanceMethod yX0_copyFrom]
def wsL_buy_r3 : List Cond := [Cond.selects RX0 yX0_copyFrom yX0_copyFrom, Cond.code yX0_copyFrom cX0_copyFrom 3 none, Cond.methodLink RX0 36 arraycopyName, Cond.native arraycopyName, Cond.static arraycopyName, Cond.initialized "java/lang/System", Cond.fieldLink RX0 19 "LateDoves$Cote" "settings" "[I", Cond.fieldLink RX0 23 "LateDoves$Cote" "atDawn" "[I", Cond.fieldLink RX0 26 "LateDoves$Cote" "stop" "[I", Cond.fieldLink RX0 32 "LateDoves$Cote" "way" "LLateDoves$Way;", Cond.fieldLink RX0 46 "LateDoves$Cote" "day" "I", Cond.fieldLink RX0 50 "LateDoves$Cote" "time" "I", Cond.fieldLink RX0 53 "LateDoves$Cote" "shifts" "I", Cond.fieldLink RX0 56 "LateDoves$Cote" "quarrels" "I", Cond.methodLink RX0 42 yX2_copyFrom, Cond.instanceMethod yX2_copyFrom, Cond.selects RX2 yX2_copyFrom yX2_copyFrom, Cond.initialized RX2, Cond.code yX2_copyFrom cX2_copyFrom 2 none, Cond.fieldLink RX2 9 "LateDoves$Way" "who" "[I", Cond.methodLink RX2 22 arraycopyName, Cond.fieldLink RX2 15 "LateDoves$Way" "where" "[I", Cond.fieldLink RX2 18 "LateDoves$Way" "size" "I", Cond.methodLink RX3 71 yX0_addDove]
def wsL_buy_r4 : List Cond := [Cond.instanceMethod yX0_addDove, Cond.selects RX0 yX0_addDove yX0_addDove, Cond.code yX0_addDove cX0_addDove 4 (some .int)]
def wsL_buy : List Cond := .codeWith yL_buy cL_buy 5 (some .int) [(0, 10, 13, 13), (0, 10, 17, 15), (0, 10, 21, 17)] :: ((wsL_buy_r1 ++ (wsL_buy_r2 ++ (wsL_buy_r3 ++ wsL_buy_r4))) ++ wsX30 ++ wsX00 ++ wsX20 ++ (vx_atS RX3 56 "java/lang/IllegalArgumentException" ["java/lang/RuntimeException", "java/lang/Exception"]).filter goodWord ++ (vx_atS RX3 67 "java/lang/IllegalStateException" ["java/lang/RuntimeException", "java/lang/Exception"]).filter goodWord ++ (vx_atS RX3 109 "java/lang/IndexOutOfBoundsException" ["java/lang/RuntimeException", "java/lang/Exception"]).filter goodWord)
def wsL_sell_r1 : List Cond := [Cond.classLink RL 13 "java/lang/IndexOutOfBoundsException", Cond.methodLink RL 19 yX3_sell, Cond.instanceMethod yX3_sell, Cond.selects RX3 yX3_sell yX3_sell, Cond.initialized RX3, Cond.code yX3_sell cX3_sell 2 (some .int), Cond.fieldLink RX3 10 "LateDoves" "now" "LLateDoves$Cote;", Cond.methodLink RX3 75 yX3_needDove, Cond.instanceMethod yX3_needDove, Cond.selects RX3 yX3_needDove yX3_needDove, Cond.code yX3_needDove cX3_needDove 2 none, Cond.classLink RX3 105 "java/lang/IndexOutOfBoundsException", Cond.initialized "java/lang/IndexOutOfBoundsException", Cond.methodLink RX3 232 yX0_exists, Cond.instanceMethod yX0_exists, Cond.selects RX0 yX0_exists yX0_exists, Cond.initialized RX0, Cond.code yX0_exists cX0_exists 2 (some .boolean), Cond.fieldLink RX0 11 "LateDoves$Cote" "doves" "[[I", Cond.methodLink RX3 68 yX3_save, Cond.instanceMethod yX3_save, Cond.selects RX3 yX3_save yX3_save, Cond.code yX3_save cX3_save 3 none, Cond.fieldLink RX3 30 "LateDoves" "savedCount" "I"]
def wsL_sell_r2 : List Cond := [Cond.fieldLink RX3 26 "LateDoves" "saved" "[LLateDoves$Cote;", Cond.methodLink RX3 159 yX0_copyFrom, Cond.instanceMethod yX0_copyFrom, Cond.selects RX0 yX0_copyFrom yX0_copyFrom, Cond.code yX0_copyFrom cX0_copyFrom 3 none, Cond.methodLink RX0 36 arraycopyName, Cond.native arraycopyName, Cond.static arraycopyName, Cond.initialized "java/lang/System", Cond.fieldLink RX0 16 "LateDoves$Cote" "holes" "[[I", Cond.fieldLink RX0 19 "LateDoves$Cote" "settings" "[I", Cond.fieldLink RX0 23 "LateDoves$Cote" "atDawn" "[I", Cond.fieldLink RX0 26 "LateDoves$Cote" "stop" "[I", Cond.fieldLink RX0 32 "LateDoves$Cote" "way" "LLateDoves$Way;", Cond.fieldLink RX0 46 "LateDoves$Cote" "day" "I", Cond.fieldLink RX0 50 "LateDoves$Cote" "time" "I", Cond.fieldLink RX0 53 "LateDoves$Cote" "shifts" "I", Cond.fieldLink RX0 56 "LateDoves$Cote" "quarrels" "I", Cond.methodLink RX0 42 yX2_copyFrom, Cond.instanceMethod yX2_copyFrom, Cond.selects RX2 yX2_copyFrom yX2_copyFrom, Cond.initialized RX2, Cond.code yX2_copyFrom cX2_copyFrom 2 none, Cond.fieldLink RX2 9 "LateDoves$Way" "who" "[I"]
def wsL_sell_r3 : List Cond := [Cond.methodLink RX2 22 arraycopyName, Cond.fieldLink RX2 15 "LateDoves$Way" "where" "[I", Cond.fieldLink RX2 18 "LateDoves$Way" "size" "I", Cond.methodLink RX3 78 yX0_removeDove, Cond.instanceMethod yX0_removeDove, Cond.selects RX0 yX0_removeDove yX0_removeDove, Cond.code yX0_removeDove cX0_removeDove 6 (some .int), Cond.static yX3_isHole, Cond.code yX3_isHole cX3_isHole 1 (some .boolean), Cond.methodLink RX0 86 yX0_exists]
def wsL_sell : List Cond := .codeWith yL_sell cL_sell 4 (some .int) [(0, 9, 12, 13)] :: ((wsL_sell_r1 ++ (wsL_sell_r2 ++ wsL_sell_r3)) ++ wsX30 ++ wsX00 ++ wsX20 ++ (vx_atS RX3 109 "java/lang/IndexOutOfBoundsException" ["java/lang/RuntimeException", "java/lang/Exception"]).filter goodWord)
def wsL_mate_r1 : List Cond := [Cond.classLink RL 13 "java/lang/IndexOutOfBoundsException", Cond.classLink RL 17 "java/lang/IllegalStateException", Cond.methodLink RL 23 yX3_mate, Cond.instanceMethod yX3_mate, Cond.selects RX3 yX3_mate yX3_mate, Cond.initialized RX3, Cond.code yX3_mate cX3_mate 3 (some .int), Cond.classLink RX3 63 "java/lang/IllegalStateException", Cond.initialized "java/lang/IllegalStateException", Cond.fieldLink RX3 10 "LateDoves" "now" "LLateDoves$Cote;", Cond.methodLink RX3 75 yX3_needDove, Cond.instanceMethod yX3_needDove, Cond.selects RX3 yX3_needDove yX3_needDove, Cond.code yX3_needDove cX3_needDove 2 none, Cond.classLink RX3 105 "java/lang/IndexOutOfBoundsException", Cond.initialized "java/lang/IndexOutOfBoundsException", Cond.methodLink RX3 232 yX0_exists, Cond.instanceMethod yX0_exists, Cond.selects RX0 yX0_exists yX0_exists, Cond.initialized RX0, Cond.code yX0_exists cX0_exists 2 (some .boolean), Cond.fieldLink RX0 11 "LateDoves$Cote" "doves" "[[I", Cond.methodLink RX3 81 yX0_reasonNotToPair, Cond.instanceMethod yX0_reasonNotToPair]
def wsL_mate_r2 : List Cond := [Cond.selects RX0 yX0_reasonNotToPair yX0_reasonNotToPair, Cond.code yX0_reasonNotToPair cX0_reasonNotToPair 4 (some .int), Cond.methodLink RX3 68 yX3_save, Cond.instanceMethod yX3_save, Cond.selects RX3 yX3_save yX3_save, Cond.code yX3_save cX3_save 3 none, Cond.fieldLink RX3 30 "LateDoves" "savedCount" "I", Cond.fieldLink RX3 26 "LateDoves" "saved" "[LLateDoves$Cote;", Cond.methodLink RX3 159 yX0_copyFrom, Cond.instanceMethod yX0_copyFrom, Cond.selects RX0 yX0_copyFrom yX0_copyFrom, Cond.code yX0_copyFrom cX0_copyFrom 3 none, Cond.methodLink RX0 36 arraycopyName, Cond.native arraycopyName, Cond.static arraycopyName, Cond.initialized "java/lang/System", Cond.fieldLink RX0 16 "LateDoves$Cote" "holes" "[[I", Cond.fieldLink RX0 19 "LateDoves$Cote" "settings" "[I", Cond.fieldLink RX0 23 "LateDoves$Cote" "atDawn" "[I", Cond.fieldLink RX0 26 "LateDoves$Cote" "stop" "[I", Cond.fieldLink RX0 32 "LateDoves$Cote" "way" "LLateDoves$Way;", Cond.fieldLink RX0 46 "LateDoves$Cote" "day" "I", Cond.fieldLink RX0 50 "LateDoves$Cote" "time" "I", Cond.fieldLink RX0 53 "LateDoves$Cote" "shifts" "I"]
def wsL_mate_r3 : List Cond := [Cond.fieldLink RX0 56 "LateDoves$Cote" "quarrels" "I", Cond.methodLink RX0 42 yX2_copyFrom, Cond.instanceMethod yX2_copyFrom, Cond.selects RX2 yX2_copyFrom yX2_copyFrom, Cond.initialized RX2, Cond.code yX2_copyFrom cX2_copyFrom 2 none, Cond.fieldLink RX2 9 "LateDoves$Way" "who" "[I", Cond.methodLink RX2 22 arraycopyName, Cond.fieldLink RX2 15 "LateDoves$Way" "where" "[I", Cond.fieldLink RX2 18 "LateDoves$Way" "size" "I", Cond.methodLink RX3 86 yX0_pair, Cond.instanceMethod yX0_pair, Cond.selects RX0 yX0_pair yX0_pair, Cond.code yX0_pair cX0_pair 3 none, Cond.methodLink RX3 90 yX0_pairs, Cond.instanceMethod yX0_pairs, Cond.selects RX0 yX0_pairs yX0_pairs, Cond.code yX0_pairs cX0_pairs 3 (some .int), Cond.methodLink RX0 86 yX0_exists]
def wsL_mate : List Cond := .codeWith yL_mate cL_mate 5 (some .int) [(0, 10, 13, 13), (0, 10, 17, 17)] :: ((wsL_mate_r1 ++ (wsL_mate_r2 ++ wsL_mate_r3)) ++ wsX30 ++ wsX00 ++ wsX20 ++ (vx_atS RX3 67 "java/lang/IllegalStateException" ["java/lang/RuntimeException", "java/lang/Exception"]).filter goodWord ++ (vx_atS RX3 109 "java/lang/IndexOutOfBoundsException" ["java/lang/RuntimeException", "java/lang/Exception"]).filter goodWord)
def wsL_shut_r1 : List Cond := [Cond.classLink RL 13 "java/lang/IndexOutOfBoundsException", Cond.classLink RL 17 "java/lang/IllegalStateException", Cond.methodLink RL 26 yX3_shut, Cond.instanceMethod yX3_shut, Cond.selects RX3 yX3_shut yX3_shut, Cond.initialized RX3, Cond.code yX3_shut cX3_shut 2 (some .int), Cond.classLink RX3 63 "java/lang/IllegalStateException", Cond.initialized "java/lang/IllegalStateException", Cond.fieldLink RX3 10 "LateDoves" "now" "LLateDoves$Cote;", Cond.methodLink RX3 48 yX3_needHole, Cond.static yX3_needHole, Cond.code yX3_needHole cX3_needHole 1 none, Cond.classLink RX3 105 "java/lang/IndexOutOfBoundsException", Cond.initialized "java/lang/IndexOutOfBoundsException", Cond.methodLink RX3 257 yX3_isHole, Cond.static yX3_isHole, Cond.code yX3_isHole cX3_isHole 1 (some .boolean), Cond.methodLink RX3 94 yX0_reasonNotToShut, Cond.instanceMethod yX0_reasonNotToShut, Cond.selects RX0 yX0_reasonNotToShut yX0_reasonNotToShut, Cond.initialized RX0, Cond.code yX0_reasonNotToShut cX0_reasonNotToShut 2 (some .int), Cond.fieldLink RX0 16 "LateDoves$Cote" "holes" "[[I"]
def wsL_shut_r2 : List Cond := [Cond.methodLink RX0 63 yX0_isOpen, Cond.instanceMethod yX0_isOpen, Cond.selects RX0 yX0_isOpen yX0_isOpen, Cond.code yX0_isOpen cX0_isOpen 2 (some .boolean), Cond.methodLink RX3 68 yX3_save, Cond.instanceMethod yX3_save, Cond.selects RX3 yX3_save yX3_save, Cond.code yX3_save cX3_save 3 none, Cond.fieldLink RX3 30 "LateDoves" "savedCount" "I", Cond.fieldLink RX3 26 "LateDoves" "saved" "[LLateDoves$Cote;", Cond.methodLink RX3 159 yX0_copyFrom, Cond.instanceMethod yX0_copyFrom, Cond.selects RX0 yX0_copyFrom yX0_copyFrom, Cond.code yX0_copyFrom cX0_copyFrom 3 none, Cond.fieldLink RX0 11 "LateDoves$Cote" "doves" "[[I", Cond.methodLink RX0 36 arraycopyName, Cond.native arraycopyName, Cond.static arraycopyName, Cond.initialized "java/lang/System", Cond.fieldLink RX0 19 "LateDoves$Cote" "settings" "[I", Cond.fieldLink RX0 23 "LateDoves$Cote" "atDawn" "[I", Cond.fieldLink RX0 26 "LateDoves$Cote" "stop" "[I", Cond.fieldLink RX0 32 "LateDoves$Cote" "way" "LLateDoves$Way;", Cond.fieldLink RX0 46 "LateDoves$Cote" "day" "I"]
def wsL_shut_r3 : List Cond := [Cond.fieldLink RX0 50 "LateDoves$Cote" "time" "I", Cond.fieldLink RX0 53 "LateDoves$Cote" "shifts" "I", Cond.fieldLink RX0 56 "LateDoves$Cote" "quarrels" "I", Cond.methodLink RX0 42 yX2_copyFrom, Cond.instanceMethod yX2_copyFrom, Cond.selects RX2 yX2_copyFrom yX2_copyFrom, Cond.initialized RX2, Cond.code yX2_copyFrom cX2_copyFrom 2 none, Cond.fieldLink RX2 9 "LateDoves$Way" "who" "[I", Cond.methodLink RX2 22 arraycopyName, Cond.fieldLink RX2 15 "LateDoves$Way" "where" "[I", Cond.fieldLink RX2 18 "LateDoves$Way" "size" "I", Cond.methodLink RX3 99 yX0_setOpen, Cond.instanceMethod yX0_setOpen, Cond.selects RX0 yX0_setOpen yX0_setOpen, Cond.code yX0_setOpen cX0_setOpen 3 none, Cond.methodLink RX3 102 yX0_openHoles, Cond.instanceMethod yX0_openHoles, Cond.selects RX0 yX0_openHoles yX0_openHoles, Cond.code yX0_openHoles cX0_openHoles 3 (some .int)]
def wsL_shut : List Cond := .codeWith yL_shut cL_shut 4 (some .int) [(0, 9, 12, 13), (0, 9, 15, 17)] :: ((wsL_shut_r1 ++ (wsL_shut_r2 ++ wsL_shut_r3)) ++ wsX30 ++ wsX00 ++ wsX20 ++ (vx_atS RX3 67 "java/lang/IllegalStateException" ["java/lang/RuntimeException", "java/lang/Exception"]).filter goodWord ++ (vx_atS RX3 109 "java/lang/IndexOutOfBoundsException" ["java/lang/RuntimeException", "java/lang/Exception"]).filter goodWord)
def wsL_open_r1 : List Cond := [Cond.classLink RL 13 "java/lang/IndexOutOfBoundsException", Cond.methodLink RL 29 yX3_open, Cond.instanceMethod yX3_open, Cond.selects RX3 yX3_open yX3_open, Cond.initialized RX3, Cond.code yX3_open cX3_open 2 (some .int), Cond.fieldLink RX3 10 "LateDoves" "now" "LLateDoves$Cote;", Cond.methodLink RX3 48 yX3_needHole, Cond.static yX3_needHole, Cond.code yX3_needHole cX3_needHole 1 none, Cond.classLink RX3 105 "java/lang/IndexOutOfBoundsException", Cond.initialized "java/lang/IndexOutOfBoundsException", Cond.methodLink RX3 257 yX3_isHole, Cond.static yX3_isHole, Cond.code yX3_isHole cX3_isHole 1 (some .boolean), Cond.methodLink RX3 68 yX3_save, Cond.instanceMethod yX3_save, Cond.selects RX3 yX3_save yX3_save, Cond.code yX3_save cX3_save 3 none, Cond.fieldLink RX3 30 "LateDoves" "savedCount" "I", Cond.fieldLink RX3 26 "LateDoves" "saved" "[LLateDoves$Cote;", Cond.methodLink RX3 159 yX0_copyFrom, Cond.instanceMethod yX0_copyFrom, Cond.selects RX0 yX0_copyFrom yX0_copyFrom]
def wsL_open_r2 : List Cond := [Cond.initialized RX0, Cond.code yX0_copyFrom cX0_copyFrom 3 none, Cond.fieldLink RX0 11 "LateDoves$Cote" "doves" "[[I", Cond.methodLink RX0 36 arraycopyName, Cond.native arraycopyName, Cond.static arraycopyName, Cond.initialized "java/lang/System", Cond.fieldLink RX0 16 "LateDoves$Cote" "holes" "[[I", Cond.fieldLink RX0 19 "LateDoves$Cote" "settings" "[I", Cond.fieldLink RX0 23 "LateDoves$Cote" "atDawn" "[I", Cond.fieldLink RX0 26 "LateDoves$Cote" "stop" "[I", Cond.fieldLink RX0 32 "LateDoves$Cote" "way" "LLateDoves$Way;", Cond.fieldLink RX0 46 "LateDoves$Cote" "day" "I", Cond.fieldLink RX0 50 "LateDoves$Cote" "time" "I", Cond.fieldLink RX0 53 "LateDoves$Cote" "shifts" "I", Cond.fieldLink RX0 56 "LateDoves$Cote" "quarrels" "I", Cond.methodLink RX0 42 yX2_copyFrom, Cond.instanceMethod yX2_copyFrom, Cond.selects RX2 yX2_copyFrom yX2_copyFrom, Cond.initialized RX2, Cond.code yX2_copyFrom cX2_copyFrom 2 none, Cond.fieldLink RX2 9 "LateDoves$Way" "who" "[I", Cond.methodLink RX2 22 arraycopyName, Cond.fieldLink RX2 15 "LateDoves$Way" "where" "[I"]
def wsL_open_r3 : List Cond := [Cond.fieldLink RX2 18 "LateDoves$Way" "size" "I", Cond.methodLink RX3 99 yX0_setOpen, Cond.instanceMethod yX0_setOpen, Cond.selects RX0 yX0_setOpen yX0_setOpen, Cond.code yX0_setOpen cX0_setOpen 3 none, Cond.methodLink RX3 102 yX0_openHoles, Cond.instanceMethod yX0_openHoles, Cond.selects RX0 yX0_openHoles yX0_openHoles, Cond.code yX0_openHoles cX0_openHoles 3 (some .int), Cond.methodLink RX0 63 yX0_isOpen, Cond.instanceMethod yX0_isOpen, Cond.selects RX0 yX0_isOpen yX0_isOpen, Cond.code yX0_isOpen cX0_isOpen 2 (some .boolean)]
def wsL_open : List Cond := .codeWith yL_open cL_open 4 (some .int) [(0, 9, 12, 13)] :: ((wsL_open_r1 ++ (wsL_open_r2 ++ wsL_open_r3)) ++ wsX30 ++ wsX00 ++ wsX20 ++ (vx_atS RX3 109 "java/lang/IndexOutOfBoundsException" ["java/lang/RuntimeException", "java/lang/Exception"]).filter goodWord)
def wsL_set_r1 : List Cond := [Cond.classLink RL 13 "java/lang/IndexOutOfBoundsException", Cond.classLink RL 15 "java/lang/IllegalArgumentException", Cond.methodLink RL 32 yX3_set, Cond.instanceMethod yX3_set, Cond.selects RX3 yX3_set yX3_set, Cond.initialized RX3, Cond.code yX3_set cX3_set 5 (some .int), Cond.classLink RX3 105 "java/lang/IndexOutOfBoundsException", Cond.initialized "java/lang/IndexOutOfBoundsException", Cond.classLink RX3 52 "java/lang/IllegalArgumentException", Cond.initialized "java/lang/IllegalArgumentException", Cond.fieldLink RX3 10 "LateDoves" "now" "LLateDoves$Cote;", Cond.methodLink RX3 68 yX3_save, Cond.instanceMethod yX3_save, Cond.selects RX3 yX3_save yX3_save, Cond.code yX3_save cX3_save 3 none, Cond.fieldLink RX3 30 "LateDoves" "savedCount" "I", Cond.fieldLink RX3 26 "LateDoves" "saved" "[LLateDoves$Cote;", Cond.methodLink RX3 159 yX0_copyFrom, Cond.instanceMethod yX0_copyFrom, Cond.selects RX0 yX0_copyFrom yX0_copyFrom, Cond.initialized RX0, Cond.code yX0_copyFrom cX0_copyFrom 3 none, Cond.fieldLink RX0 11 "LateDoves$Cote" "doves" "[[I"]
def wsL_set_r2 : List Cond := [Cond.methodLink RX0 36 arraycopyName, Cond.native arraycopyName, Cond.static arraycopyName, Cond.initialized "java/lang/System", Cond.fieldLink RX0 16 "LateDoves$Cote" "holes" "[[I", Cond.fieldLink RX0 19 "LateDoves$Cote" "settings" "[I", Cond.fieldLink RX0 23 "LateDoves$Cote" "atDawn" "[I", Cond.fieldLink RX0 26 "LateDoves$Cote" "stop" "[I", Cond.fieldLink RX0 32 "LateDoves$Cote" "way" "LLateDoves$Way;", Cond.fieldLink RX0 46 "LateDoves$Cote" "day" "I", Cond.fieldLink RX0 50 "LateDoves$Cote" "time" "I", Cond.fieldLink RX0 53 "LateDoves$Cote" "shifts" "I", Cond.fieldLink RX0 56 "LateDoves$Cote" "quarrels" "I", Cond.methodLink RX0 42 yX2_copyFrom, Cond.instanceMethod yX2_copyFrom, Cond.selects RX2 yX2_copyFrom yX2_copyFrom, Cond.initialized RX2, Cond.code yX2_copyFrom cX2_copyFrom 2 none, Cond.fieldLink RX2 9 "LateDoves$Way" "who" "[I", Cond.methodLink RX2 22 arraycopyName, Cond.fieldLink RX2 15 "LateDoves$Way" "where" "[I", Cond.fieldLink RX2 18 "LateDoves$Way" "size" "I"]
def wsL_set : List Cond := .codeWith yL_set cL_set 5 (some .int) [(0, 10, 13, 13), (0, 10, 17, 15)] :: ((wsL_set_r1 ++ wsL_set_r2) ++ wsX30 ++ wsX00 ++ wsX20 ++ (vx_atS RX3 109 "java/lang/IndexOutOfBoundsException" ["java/lang/RuntimeException", "java/lang/Exception"]).filter goodWord ++ (vx_atS RX3 56 "java/lang/IllegalArgumentException" ["java/lang/RuntimeException", "java/lang/Exception"]).filter goodWord)
def wsL_home_r1 : List Cond := [Cond.classLink RL 13 "java/lang/IndexOutOfBoundsException", Cond.classLink RL 15 "java/lang/IllegalArgumentException", Cond.classLink RL 17 "java/lang/IllegalStateException", Cond.methodLink RL 35 yX3_home, Cond.instanceMethod yX3_home, Cond.selects RX3 yX3_home yX3_home, Cond.initialized RX3, Cond.code yX3_home cX3_home 3 (some .int), Cond.classLink RX3 63 "java/lang/IllegalStateException", Cond.initialized "java/lang/IllegalStateException", Cond.fieldLink RX3 10 "LateDoves" "now" "LLateDoves$Cote;", Cond.methodLink RX3 75 yX3_needDove, Cond.instanceMethod yX3_needDove, Cond.selects RX3 yX3_needDove yX3_needDove, Cond.code yX3_needDove cX3_needDove 2 none, Cond.classLink RX3 105 "java/lang/IndexOutOfBoundsException", Cond.initialized "java/lang/IndexOutOfBoundsException", Cond.methodLink RX3 232 yX0_exists, Cond.instanceMethod yX0_exists, Cond.selects RX0 yX0_exists yX0_exists, Cond.initialized RX0, Cond.code yX0_exists cX0_exists 2 (some .boolean), Cond.fieldLink RX0 11 "LateDoves$Cote" "doves" "[[I", Cond.methodLink RX3 115 yX3_needTime]
def wsL_home_r2 : List Cond := [Cond.static yX3_needTime, Cond.code yX3_needTime cX3_needTime 1 none, Cond.classLink RX3 52 "java/lang/IllegalArgumentException", Cond.initialized "java/lang/IllegalArgumentException", Cond.methodLink RX3 118 yX0_reasonNotHome, Cond.instanceMethod yX0_reasonNotHome, Cond.selects RX0 yX0_reasonNotHome yX0_reasonNotHome, Cond.code yX0_reasonNotHome cX0_reasonNotHome 3 (some .int), Cond.fieldLink RX0 50 "LateDoves$Cote" "time" "I", Cond.methodLink RX3 68 yX3_save, Cond.instanceMethod yX3_save, Cond.selects RX3 yX3_save yX3_save, Cond.code yX3_save cX3_save 3 none, Cond.fieldLink RX3 30 "LateDoves" "savedCount" "I", Cond.fieldLink RX3 26 "LateDoves" "saved" "[LLateDoves$Cote;", Cond.methodLink RX3 159 yX0_copyFrom, Cond.instanceMethod yX0_copyFrom, Cond.selects RX0 yX0_copyFrom yX0_copyFrom, Cond.code yX0_copyFrom cX0_copyFrom 3 none, Cond.methodLink RX0 36 arraycopyName, Cond.native arraycopyName, Cond.static arraycopyName, Cond.initialized "java/lang/System", Cond.fieldLink RX0 16 "LateDoves$Cote" "holes" "[[I"]
def wsL_home_r3 : List Cond := [Cond.fieldLink RX0 19 "LateDoves$Cote" "settings" "[I", Cond.fieldLink RX0 23 "LateDoves$Cote" "atDawn" "[I", Cond.fieldLink RX0 26 "LateDoves$Cote" "stop" "[I", Cond.fieldLink RX0 32 "LateDoves$Cote" "way" "LLateDoves$Way;", Cond.fieldLink RX0 46 "LateDoves$Cote" "day" "I", Cond.fieldLink RX0 53 "LateDoves$Cote" "shifts" "I", Cond.fieldLink RX0 56 "LateDoves$Cote" "quarrels" "I", Cond.methodLink RX0 42 yX2_copyFrom, Cond.instanceMethod yX2_copyFrom, Cond.selects RX2 yX2_copyFrom yX2_copyFrom, Cond.initialized RX2, Cond.code yX2_copyFrom cX2_copyFrom 2 none, Cond.fieldLink RX2 9 "LateDoves$Way" "who" "[I", Cond.methodLink RX2 22 arraycopyName, Cond.fieldLink RX2 15 "LateDoves$Way" "where" "[I", Cond.fieldLink RX2 18 "LateDoves$Way" "size" "I", Cond.methodLink RX3 123 yX0_comeHome, Cond.instanceMethod yX0_comeHome, Cond.selects RX0 yX0_comeHome yX0_comeHome, Cond.code yX0_comeHome cX0_comeHome 8 (some .int), Cond.methodLink RX0 63 yX0_isOpen, Cond.instanceMethod yX0_isOpen, Cond.selects RX0 yX0_isOpen yX0_isOpen, Cond.code yX0_isOpen cX0_isOpen 2 (some .boolean)]
def wsL_home_r4 : List Cond := [Cond.static yX3_isHole, Cond.code yX3_isHole cX3_isHole 1 (some .boolean), Cond.methodLink RX0 92 yX0_enterOwnHole, Cond.instanceMethod yX0_enterOwnHole, Cond.selects RX0 yX0_enterOwnHole yX0_enterOwnHole, Cond.code yX0_enterOwnHole cX0_enterOwnHole 5 (some .int), Cond.methodLink RX0 86 yX0_exists, Cond.methodLink RX0 99 yX0_shiftFrom, Cond.instanceMethod yX0_shiftFrom, Cond.selects RX0 yX0_shiftFrom yX0_shiftFrom, Cond.code yX0_shiftFrom cX0_shiftFrom 4 (some .int), Cond.methodLink RX0 103 yX0_sit, Cond.instanceMethod yX0_sit, Cond.selects RX0 yX0_sit yX0_sit, Cond.code yX0_sit cX0_sit 3 none, Cond.methodLink RX0 113 yX2_note, Cond.instanceMethod yX2_note, Cond.selects RX2 yX2_note yX2_note, Cond.code yX2_note cX2_note 3 none, Cond.methodLink RX0 96 yX0_settle, Cond.instanceMethod yX0_settle, Cond.selects RX0 yX0_settle yX0_settle, Cond.code yX0_settle cX0_settle 6 (some .int), Cond.methodLink RX0 107 yX0_firstFreeFor]
def wsL_home_r5 : List Cond := [Cond.instanceMethod yX0_firstFreeFor, Cond.selects RX0 yX0_firstFreeFor yX0_firstFreeFor, Cond.code yX0_firstFreeFor cX0_firstFreeFor 6 (some .int), Cond.methodLink RX0 110 yX0_isFree, Cond.instanceMethod yX0_isFree, Cond.selects RX0 yX0_isFree yX0_isFree, Cond.code yX0_isFree cX0_isFree 2 (some .boolean)]
def wsL_home : List Cond := .codeWith yL_home cL_home 5 (some .int) [(0, 10, 13, 13), (0, 10, 17, 15), (0, 10, 21, 17)] :: ((wsL_home_r1 ++ (wsL_home_r2 ++ (wsL_home_r3 ++ (wsL_home_r4 ++ wsL_home_r5)))) ++ wsX30 ++ wsX00 ++ wsX20 ++ (vx_atS RX3 67 "java/lang/IllegalStateException" ["java/lang/RuntimeException", "java/lang/Exception"]).filter goodWord ++ (vx_atS RX3 109 "java/lang/IndexOutOfBoundsException" ["java/lang/RuntimeException", "java/lang/Exception"]).filter goodWord ++ (vx_atS RX3 56 "java/lang/IllegalArgumentException" ["java/lang/RuntimeException", "java/lang/Exception"]).filter goodWord)
def wsL_append : List Cond := .codeWith yL_append cL_append 4 (some .int) [(0, 9, 12, 15), (0, 9, 15, 17)] :: ([.classLink RL 15 "java/lang/IllegalArgumentException", .classLink RL 17 "java/lang/IllegalStateException", .methodLink RL 38 yX3_append, .instanceMethod yX3_append, .selects RX3 yX3_append yX3_append, .initialized RX3, .code yX3_append cX3_append 2 (some .int), .classLink RX3 52 "java/lang/IllegalArgumentException", .initialized "java/lang/IllegalArgumentException", .classLink RX3 63 "java/lang/IllegalStateException", .initialized "java/lang/IllegalStateException", .fieldLink RX3 38 "LateDoves" "length" "I", .fieldLink RX3 34 "LateDoves" "buffer" "[I"] ++ wsX30 ++ (vx_atS RX3 56 "java/lang/IllegalArgumentException" ["java/lang/RuntimeException", "java/lang/Exception"]).filter goodWord ++ (vx_atS RX3 67 "java/lang/IllegalStateException" ["java/lang/RuntimeException", "java/lang/Exception"]).filter goodWord)
def wsL_pass_r1 : List Cond := [Cond.classLink RL 15 "java/lang/IllegalArgumentException", Cond.methodLink RL 41 yX3_pass, Cond.instanceMethod yX3_pass, Cond.selects RX3 yX3_pass yX3_pass, Cond.initialized RX3, Cond.code yX3_pass cX3_pass 2 (some .int), Cond.classLink RX3 52 "java/lang/IllegalArgumentException", Cond.initialized "java/lang/IllegalArgumentException", Cond.fieldLink RX3 38 "LateDoves" "length" "I", Cond.fieldLink RX3 44 "LateDoves" "reader" "LLateDoves$PartReader;", Cond.methodLink RX3 140 yX3_firstError, Cond.instanceMethod yX3_firstError, Cond.selects RX3 yX3_firstError yX3_firstError, Cond.code yX3_firstError cX3_firstError 2 (some .int), Cond.fieldLink RX3 34 "LateDoves" "buffer" "[I", Cond.methodLink RX3 133 yX1_begin, Cond.instanceMethod yX1_begin, Cond.selects RX1 yX1_begin yX1_begin, Cond.initialized RX1, Cond.code yX1_begin cX1_begin 1 none, Cond.fieldLink RX1 11 "LateDoves$PartReader" "stage" "I", Cond.fieldLink RX1 15 "LateDoves$PartReader" "kind" "I", Cond.fieldLink RX1 18 "LateDoves$PartReader" "first" "I", Cond.fieldLink RX1 21 "LateDoves$PartReader" "second" "I"]
def wsL_pass_r2 : List Cond := [Cond.methodLink RX3 136 yX1_take, Cond.instanceMethod yX1_take, Cond.selects RX1 yX1_take yX1_take, Cond.code yX1_take cX1_take 2 (some .boolean), Cond.methodLink RX1 24 yX1_takeLetter, Cond.instanceMethod yX1_takeLetter, Cond.selects RX1 yX1_takeLetter yX1_takeLetter, Cond.code yX1_takeLetter cX1_takeLetter 2 (some .boolean), Cond.methodLink RX1 28 yX1_takeEnd, Cond.instanceMethod yX1_takeEnd, Cond.selects RX1 yX1_takeEnd yX1_takeEnd, Cond.code yX1_takeEnd cX1_takeEnd 1 (some .boolean), Cond.methodLink RX1 42 yX1_isComplete, Cond.instanceMethod yX1_isComplete, Cond.selects RX1 yX1_isComplete yX1_isComplete, Cond.code yX1_isComplete cX1_isComplete 1 (some .boolean), Cond.methodLink RX1 38 yX1_signBehindFirst, Cond.instanceMethod yX1_signBehindFirst, Cond.selects RX1 yX1_signBehindFirst yX1_signBehindFirst, Cond.code yX1_signBehindFirst cX1_signBehindFirst 1 (some .int), Cond.methodLink RX1 45 yX1_begin, Cond.methodLink RX1 32 yX1_takeDigit, Cond.instanceMethod yX1_takeDigit, Cond.selects RX1 yX1_takeDigit yX1_takeDigit]
def wsL_pass_r3 : List Cond := [Cond.code yX1_takeDigit cX1_takeDigit 3 (some .boolean), Cond.methodLink RX1 48 yX1_grown, Cond.static yX1_grown, Cond.code yX1_grown cX1_grown 2 (some .int), Cond.methodLink RX1 52 yX1_highestFirst, Cond.instanceMethod yX1_highestFirst, Cond.selects RX1 yX1_highestFirst yX1_highestFirst, Cond.code yX1_highestFirst cX1_highestFirst 1 (some .int), Cond.methodLink RX1 55 yX1_lowestSecond, Cond.instanceMethod yX1_lowestSecond, Cond.selects RX1 yX1_lowestSecond yX1_lowestSecond, Cond.code yX1_lowestSecond cX1_lowestSecond 1 (some .int), Cond.methodLink RX1 58 yX1_highestSecond, Cond.instanceMethod yX1_highestSecond, Cond.selects RX1 yX1_highestSecond yX1_highestSecond, Cond.code yX1_highestSecond cX1_highestSecond 1 (some .int), Cond.methodLink RX1 35 yX1_takeSign, Cond.instanceMethod yX1_takeSign, Cond.selects RX1 yX1_takeSign yX1_takeSign, Cond.code yX1_takeSign cX1_takeSign 2 (some .boolean), Cond.methodLink RX3 143 yX1_isComplete, Cond.methodLink RX3 68 yX3_save, Cond.instanceMethod yX3_save, Cond.selects RX3 yX3_save yX3_save]
def wsL_pass_r4 : List Cond := [Cond.code yX3_save cX3_save 3 none, Cond.fieldLink RX3 30 "LateDoves" "savedCount" "I", Cond.fieldLink RX3 26 "LateDoves" "saved" "[LLateDoves$Cote;", Cond.fieldLink RX3 10 "LateDoves" "now" "LLateDoves$Cote;", Cond.methodLink RX3 159 yX0_copyFrom, Cond.instanceMethod yX0_copyFrom, Cond.selects RX0 yX0_copyFrom yX0_copyFrom, Cond.initialized RX0, Cond.code yX0_copyFrom cX0_copyFrom 3 none, Cond.fieldLink RX0 11 "LateDoves$Cote" "doves" "[[I", Cond.methodLink RX0 36 arraycopyName, Cond.native arraycopyName, Cond.static arraycopyName, Cond.initialized "java/lang/System", Cond.fieldLink RX0 16 "LateDoves$Cote" "holes" "[[I", Cond.fieldLink RX0 19 "LateDoves$Cote" "settings" "[I", Cond.fieldLink RX0 23 "LateDoves$Cote" "atDawn" "[I", Cond.fieldLink RX0 26 "LateDoves$Cote" "stop" "[I", Cond.fieldLink RX0 32 "LateDoves$Cote" "way" "LLateDoves$Way;", Cond.fieldLink RX0 46 "LateDoves$Cote" "day" "I", Cond.fieldLink RX0 50 "LateDoves$Cote" "time" "I", Cond.fieldLink RX0 53 "LateDoves$Cote" "shifts" "I", Cond.fieldLink RX0 56 "LateDoves$Cote" "quarrels" "I", Cond.methodLink RX0 42 yX2_copyFrom]
def wsL_pass_r5 : List Cond := [Cond.instanceMethod yX2_copyFrom, Cond.selects RX2 yX2_copyFrom yX2_copyFrom, Cond.initialized RX2, Cond.code yX2_copyFrom cX2_copyFrom 2 none, Cond.fieldLink RX2 9 "LateDoves$Way" "who" "[I", Cond.methodLink RX2 22 arraycopyName, Cond.fieldLink RX2 15 "LateDoves$Way" "where" "[I", Cond.fieldLink RX2 18 "LateDoves$Way" "size" "I", Cond.methodLink RX3 149 yX3_playEvening, Cond.instanceMethod yX3_playEvening, Cond.selects RX3 yX3_playEvening yX3_playEvening, Cond.code yX3_playEvening cX3_playEvening 4 (some .int), Cond.methodLink RX3 266 yX0_noteStop, Cond.instanceMethod yX0_noteStop, Cond.selects RX0 yX0_noteStop yX0_noteStop, Cond.code yX0_noteStop cX0_noteStop 3 none, Cond.methodLink RX3 269 yX3_playPart, Cond.instanceMethod yX3_playPart, Cond.selects RX3 yX3_playPart yX3_playPart, Cond.code yX3_playPart cX3_playPart 3 (some .int), Cond.methodLink RX3 281 yX3_playHome, Cond.instanceMethod yX3_playHome, Cond.selects RX3 yX3_playHome yX3_playHome, Cond.code yX3_playHome cX3_playHome 4 (some .int)]
def wsL_pass_r6 : List Cond := [Cond.methodLink RX3 232 yX0_exists, Cond.instanceMethod yX0_exists, Cond.selects RX0 yX0_exists yX0_exists, Cond.code yX0_exists cX0_exists 2 (some .boolean), Cond.methodLink RX3 118 yX0_reasonNotHome, Cond.instanceMethod yX0_reasonNotHome, Cond.selects RX0 yX0_reasonNotHome yX0_reasonNotHome, Cond.code yX0_reasonNotHome cX0_reasonNotHome 3 (some .int), Cond.methodLink RX3 123 yX0_comeHome, Cond.instanceMethod yX0_comeHome, Cond.selects RX0 yX0_comeHome yX0_comeHome, Cond.code yX0_comeHome cX0_comeHome 8 (some .int), Cond.methodLink RX0 63 yX0_isOpen, Cond.instanceMethod yX0_isOpen, Cond.selects RX0 yX0_isOpen yX0_isOpen, Cond.code yX0_isOpen cX0_isOpen 2 (some .boolean), Cond.static yX3_isHole, Cond.code yX3_isHole cX3_isHole 1 (some .boolean), Cond.methodLink RX0 92 yX0_enterOwnHole, Cond.instanceMethod yX0_enterOwnHole, Cond.selects RX0 yX0_enterOwnHole yX0_enterOwnHole, Cond.code yX0_enterOwnHole cX0_enterOwnHole 5 (some .int), Cond.methodLink RX0 86 yX0_exists, Cond.methodLink RX0 99 yX0_shiftFrom]
def wsL_pass_r7 : List Cond := [Cond.instanceMethod yX0_shiftFrom, Cond.selects RX0 yX0_shiftFrom yX0_shiftFrom, Cond.code yX0_shiftFrom cX0_shiftFrom 4 (some .int), Cond.methodLink RX0 103 yX0_sit, Cond.instanceMethod yX0_sit, Cond.selects RX0 yX0_sit yX0_sit, Cond.code yX0_sit cX0_sit 3 none, Cond.methodLink RX0 113 yX2_note, Cond.instanceMethod yX2_note, Cond.selects RX2 yX2_note yX2_note, Cond.code yX2_note cX2_note 3 none, Cond.methodLink RX0 96 yX0_settle, Cond.instanceMethod yX0_settle, Cond.selects RX0 yX0_settle yX0_settle, Cond.code yX0_settle cX0_settle 6 (some .int), Cond.methodLink RX0 107 yX0_firstFreeFor, Cond.instanceMethod yX0_firstFreeFor, Cond.selects RX0 yX0_firstFreeFor yX0_firstFreeFor, Cond.code yX0_firstFreeFor cX0_firstFreeFor 6 (some .int), Cond.methodLink RX0 110 yX0_isFree, Cond.instanceMethod yX0_isFree, Cond.selects RX0 yX0_isFree yX0_isFree, Cond.code yX0_isFree cX0_isFree 2 (some .boolean), Cond.methodLink RX3 284 yX3_playBuy]
def wsL_pass_r8 : List Cond := [Cond.instanceMethod yX3_playBuy, Cond.selects RX3 yX3_playBuy yX3_playBuy, Cond.code yX3_playBuy cX3_playBuy 4 (some .int), Cond.methodLink RX3 59 yX0_reasonNotToBuy, Cond.instanceMethod yX0_reasonNotToBuy, Cond.selects RX0 yX0_reasonNotToBuy yX0_reasonNotToBuy, Cond.code yX0_reasonNotToBuy cX0_reasonNotToBuy 2 (some .int), Cond.methodLink RX0 66 yX0_doveCount, Cond.instanceMethod yX0_doveCount, Cond.selects RX0 yX0_doveCount yX0_doveCount, Cond.code yX0_doveCount cX0_doveCount 3 (some .int), Cond.methodLink RX3 71 yX0_addDove, Cond.instanceMethod yX0_addDove, Cond.selects RX0 yX0_addDove yX0_addDove, Cond.code yX0_addDove cX0_addDove 4 (some .int), Cond.methodLink RX3 287 yX3_playMate, Cond.instanceMethod yX3_playMate, Cond.selects RX3 yX3_playMate yX3_playMate, Cond.code yX3_playMate cX3_playMate 4 (some .int), Cond.methodLink RX3 81 yX0_reasonNotToPair, Cond.instanceMethod yX0_reasonNotToPair, Cond.selects RX0 yX0_reasonNotToPair yX0_reasonNotToPair, Cond.code yX0_reasonNotToPair cX0_reasonNotToPair 4 (some .int), Cond.methodLink RX3 86 yX0_pair]
def wsL_pass_r9 : List Cond := [Cond.instanceMethod yX0_pair, Cond.selects RX0 yX0_pair yX0_pair, Cond.code yX0_pair cX0_pair 3 none, Cond.methodLink RX3 290 yX3_playShut, Cond.instanceMethod yX3_playShut, Cond.selects RX3 yX3_playShut yX3_playShut, Cond.code yX3_playShut cX3_playShut 3 (some .int), Cond.methodLink RX3 94 yX0_reasonNotToShut, Cond.instanceMethod yX0_reasonNotToShut, Cond.selects RX0 yX0_reasonNotToShut yX0_reasonNotToShut, Cond.code yX0_reasonNotToShut cX0_reasonNotToShut 2 (some .int), Cond.methodLink RX3 99 yX0_setOpen, Cond.instanceMethod yX0_setOpen, Cond.selects RX0 yX0_setOpen yX0_setOpen, Cond.code yX0_setOpen cX0_setOpen 3 none, Cond.methodLink RX3 257 yX3_isHole, Cond.methodLink RX3 126 yX0_endNight, Cond.instanceMethod yX0_endNight, Cond.selects RX0 yX0_endNight yX0_endNight, Cond.code yX0_endNight cX0_endNight 2 (some .int), Cond.methodLink RX0 116 yX0_countAtDawn, Cond.instanceMethod yX0_countAtDawn, Cond.selects RX0 yX0_countAtDawn yX0_countAtDawn, Cond.code yX0_countAtDawn cX0_countAtDawn 3 none]
def wsL_pass : List Cond := .codeWith yL_pass cL_pass 3 (some .int) [(0, 8, 11, 15)] :: ((wsL_pass_r1 ++ (wsL_pass_r2 ++ (wsL_pass_r3 ++ (wsL_pass_r4 ++ (wsL_pass_r5 ++ (wsL_pass_r6 ++ (wsL_pass_r7 ++ (wsL_pass_r8 ++ wsL_pass_r9)))))))) ++ wsX30 ++ wsX10 ++ wsX00 ++ wsX20 ++ (vx_atS RX3 56 "java/lang/IllegalArgumentException" ["java/lang/RuntimeException", "java/lang/Exception"]).filter goodWord)
def wsL_stopped : List Cond := .codeWith yL_stopped cL_stopped 4 (some .int) [(0, 9, 12, 15)] :: ([.classLink RL 15 "java/lang/IllegalArgumentException", .methodLink RL 45 yX3_stopped, .instanceMethod yX3_stopped, .selects RX3 yX3_stopped yX3_stopped, .initialized RX3, .code yX3_stopped cX3_stopped 2 (some .int), .classLink RX3 52 "java/lang/IllegalArgumentException", .initialized "java/lang/IllegalArgumentException", .fieldLink RX3 10 "LateDoves" "now" "LLateDoves$Cote;"] ++ wsX30 ++ wsX00 ++ (vx_atS RX3 56 "java/lang/IllegalArgumentException" ["java/lang/RuntimeException", "java/lang/Exception"]).filter goodWord)
def wsL_undo_r1 : List Cond := [Cond.classLink RL 17 "java/lang/IllegalStateException", Cond.methodLink RL 48 yX3_undo, Cond.instanceMethod yX3_undo, Cond.selects RX3 yX3_undo yX3_undo, Cond.initialized RX3, Cond.code yX3_undo cX3_undo 1 (some .int), Cond.classLink RX3 63 "java/lang/IllegalStateException", Cond.initialized "java/lang/IllegalStateException", Cond.fieldLink RX3 30 "LateDoves" "savedCount" "I", Cond.fieldLink RX3 10 "LateDoves" "now" "LLateDoves$Cote;", Cond.fieldLink RX3 26 "LateDoves" "saved" "[LLateDoves$Cote;", Cond.methodLink RX3 159 yX0_copyFrom, Cond.instanceMethod yX0_copyFrom, Cond.selects RX0 yX0_copyFrom yX0_copyFrom, Cond.initialized RX0, Cond.code yX0_copyFrom cX0_copyFrom 3 none, Cond.fieldLink RX0 11 "LateDoves$Cote" "doves" "[[I", Cond.methodLink RX0 36 arraycopyName, Cond.native arraycopyName, Cond.static arraycopyName, Cond.initialized "java/lang/System", Cond.fieldLink RX0 16 "LateDoves$Cote" "holes" "[[I", Cond.fieldLink RX0 19 "LateDoves$Cote" "settings" "[I", Cond.fieldLink RX0 23 "LateDoves$Cote" "atDawn" "[I"]
def wsL_undo_r2 : List Cond := [Cond.fieldLink RX0 26 "LateDoves$Cote" "stop" "[I", Cond.fieldLink RX0 32 "LateDoves$Cote" "way" "LLateDoves$Way;", Cond.fieldLink RX0 46 "LateDoves$Cote" "day" "I", Cond.fieldLink RX0 50 "LateDoves$Cote" "time" "I", Cond.fieldLink RX0 53 "LateDoves$Cote" "shifts" "I", Cond.fieldLink RX0 56 "LateDoves$Cote" "quarrels" "I", Cond.methodLink RX0 42 yX2_copyFrom, Cond.instanceMethod yX2_copyFrom, Cond.selects RX2 yX2_copyFrom yX2_copyFrom, Cond.initialized RX2, Cond.code yX2_copyFrom cX2_copyFrom 2 none, Cond.fieldLink RX2 9 "LateDoves$Way" "who" "[I", Cond.methodLink RX2 22 arraycopyName, Cond.fieldLink RX2 15 "LateDoves$Way" "where" "[I", Cond.fieldLink RX2 18 "LateDoves$Way" "size" "I"]
def wsL_undo : List Cond := .codeWith yL_undo cL_undo 3 (some .int) [(0, 8, 11, 17)] :: ((wsL_undo_r1 ++ wsL_undo_r2) ++ wsX30 ++ wsX00 ++ wsX20 ++ (vx_atS RX3 67 "java/lang/IllegalStateException" ["java/lang/RuntimeException", "java/lang/Exception"]).filter goodWord)
def wsL_restore_r1 : List Cond := [Cond.classLink RL 17 "java/lang/IllegalStateException", Cond.methodLink RL 51 yX3_restore, Cond.instanceMethod yX3_restore, Cond.selects RX3 yX3_restore yX3_restore, Cond.initialized RX3, Cond.code yX3_restore cX3_restore 1 (some .int), Cond.classLink RX3 63 "java/lang/IllegalStateException", Cond.initialized "java/lang/IllegalStateException", Cond.fieldLink RX3 22 "LateDoves" "hasSnapshot" "Z", Cond.fieldLink RX3 10 "LateDoves" "now" "LLateDoves$Cote;", Cond.fieldLink RX3 19 "LateDoves" "snapshot" "LLateDoves$Cote;", Cond.methodLink RX3 68 yX3_save, Cond.instanceMethod yX3_save, Cond.selects RX3 yX3_save yX3_save, Cond.code yX3_save cX3_save 3 none, Cond.fieldLink RX3 30 "LateDoves" "savedCount" "I", Cond.fieldLink RX3 26 "LateDoves" "saved" "[LLateDoves$Cote;", Cond.methodLink RX3 159 yX0_copyFrom, Cond.instanceMethod yX0_copyFrom, Cond.selects RX0 yX0_copyFrom yX0_copyFrom, Cond.initialized RX0, Cond.code yX0_copyFrom cX0_copyFrom 3 none, Cond.fieldLink RX0 11 "LateDoves$Cote" "doves" "[[I", Cond.methodLink RX0 36 arraycopyName]
def wsL_restore_r2 : List Cond := [Cond.native arraycopyName, Cond.static arraycopyName, Cond.initialized "java/lang/System", Cond.fieldLink RX0 16 "LateDoves$Cote" "holes" "[[I", Cond.fieldLink RX0 19 "LateDoves$Cote" "settings" "[I", Cond.fieldLink RX0 23 "LateDoves$Cote" "atDawn" "[I", Cond.fieldLink RX0 26 "LateDoves$Cote" "stop" "[I", Cond.fieldLink RX0 32 "LateDoves$Cote" "way" "LLateDoves$Way;", Cond.fieldLink RX0 46 "LateDoves$Cote" "day" "I", Cond.fieldLink RX0 50 "LateDoves$Cote" "time" "I", Cond.fieldLink RX0 53 "LateDoves$Cote" "shifts" "I", Cond.fieldLink RX0 56 "LateDoves$Cote" "quarrels" "I", Cond.methodLink RX0 42 yX2_copyFrom, Cond.instanceMethod yX2_copyFrom, Cond.selects RX2 yX2_copyFrom yX2_copyFrom, Cond.initialized RX2, Cond.code yX2_copyFrom cX2_copyFrom 2 none, Cond.fieldLink RX2 9 "LateDoves$Way" "who" "[I", Cond.methodLink RX2 22 arraycopyName, Cond.fieldLink RX2 15 "LateDoves$Way" "where" "[I", Cond.fieldLink RX2 18 "LateDoves$Way" "size" "I"]
def wsL_restore : List Cond := .codeWith yL_restore cL_restore 3 (some .int) [(0, 8, 11, 17)] :: ((wsL_restore_r1 ++ wsL_restore_r2) ++ wsX30 ++ wsX00 ++ wsX20 ++ (vx_atS RX3 67 "java/lang/IllegalStateException" ["java/lang/RuntimeException", "java/lang/Exception"]).filter goodWord)
def wsL_dove : List Cond := .codeWith yL_dove cL_dove 5 (some .int) [(0, 10, 13, 13), (0, 10, 17, 15)] :: ([.classLink RL 13 "java/lang/IndexOutOfBoundsException", .classLink RL 15 "java/lang/IllegalArgumentException", .methodLink RL 54 yX3_dove, .instanceMethod yX3_dove, .selects RX3 yX3_dove yX3_dove, .initialized RX3, .code yX3_dove cX3_dove 3 (some .int), .classLink RX3 52 "java/lang/IllegalArgumentException", .initialized "java/lang/IllegalArgumentException", .fieldLink RX3 10 "LateDoves" "now" "LLateDoves$Cote;", .methodLink RX3 75 yX3_needDove, .instanceMethod yX3_needDove, .selects RX3 yX3_needDove yX3_needDove, .code yX3_needDove cX3_needDove 2 none, .classLink RX3 105 "java/lang/IndexOutOfBoundsException", .initialized "java/lang/IndexOutOfBoundsException", .methodLink RX3 232 yX0_exists, .instanceMethod yX0_exists, .selects RX0 yX0_exists yX0_exists, .initialized RX0, .code yX0_exists cX0_exists 2 (some .boolean), .fieldLink RX0 11 "LateDoves$Cote" "doves" "[[I"] ++ wsX30 ++ wsX00 ++ (vx_atS RX3 56 "java/lang/IllegalArgumentException" ["java/lang/RuntimeException", "java/lang/Exception"]).filter goodWord ++ (vx_atS RX3 109 "java/lang/IndexOutOfBoundsException" ["java/lang/RuntimeException", "java/lang/Exception"]).filter goodWord)
def wsL_hole : List Cond := .codeWith yL_hole cL_hole 5 (some .int) [(0, 10, 13, 13), (0, 10, 17, 15)] :: ([.classLink RL 13 "java/lang/IndexOutOfBoundsException", .classLink RL 15 "java/lang/IllegalArgumentException", .methodLink RL 57 yX3_hole, .instanceMethod yX3_hole, .selects RX3 yX3_hole yX3_hole, .initialized RX3, .code yX3_hole cX3_hole 3 (some .int), .classLink RX3 52 "java/lang/IllegalArgumentException", .initialized "java/lang/IllegalArgumentException", .fieldLink RX3 10 "LateDoves" "now" "LLateDoves$Cote;", .methodLink RX3 48 yX3_needHole, .static yX3_needHole, .code yX3_needHole cX3_needHole 1 none, .classLink RX3 105 "java/lang/IndexOutOfBoundsException", .initialized "java/lang/IndexOutOfBoundsException", .methodLink RX3 257 yX3_isHole, .static yX3_isHole, .code yX3_isHole cX3_isHole 1 (some .boolean)] ++ wsX30 ++ wsX00 ++ (vx_atS RX3 56 "java/lang/IllegalArgumentException" ["java/lang/RuntimeException", "java/lang/Exception"]).filter goodWord ++ (vx_atS RX3 109 "java/lang/IndexOutOfBoundsException" ["java/lang/RuntimeException", "java/lang/Exception"]).filter goodWord)
def wsL_count_r1 : List Cond := [Cond.classLink RL 15 "java/lang/IllegalArgumentException", Cond.methodLink RL 60 yX3_count, Cond.instanceMethod yX3_count, Cond.selects RX3 yX3_count yX3_count, Cond.initialized RX3, Cond.code yX3_count cX3_count 2 (some .int), Cond.classLink RX3 52 "java/lang/IllegalArgumentException", Cond.initialized "java/lang/IllegalArgumentException", Cond.fieldLink RX3 30 "LateDoves" "savedCount" "I", Cond.fieldLink RX3 10 "LateDoves" "now" "LLateDoves$Cote;", Cond.methodLink RX3 181 yX0_numberOf, Cond.instanceMethod yX0_numberOf, Cond.selects RX0 yX0_numberOf yX0_numberOf, Cond.initialized RX0, Cond.code yX0_numberOf cX0_numberOf 2 (some .int), Cond.fieldLink RX0 46 "LateDoves$Cote" "day" "I", Cond.fieldLink RX0 50 "LateDoves$Cote" "time" "I", Cond.fieldLink RX0 53 "LateDoves$Cote" "shifts" "I", Cond.fieldLink RX0 56 "LateDoves$Cote" "quarrels" "I", Cond.fieldLink RX0 23 "LateDoves$Cote" "atDawn" "[I", Cond.fieldLink RX0 19 "LateDoves$Cote" "settings" "[I", Cond.methodLink RX0 66 yX0_doveCount, Cond.instanceMethod yX0_doveCount, Cond.selects RX0 yX0_doveCount yX0_doveCount]
def wsL_count_r2 : List Cond := [Cond.code yX0_doveCount cX0_doveCount 3 (some .int), Cond.methodLink RX0 86 yX0_exists, Cond.instanceMethod yX0_exists, Cond.selects RX0 yX0_exists yX0_exists, Cond.code yX0_exists cX0_exists 2 (some .boolean), Cond.fieldLink RX0 11 "LateDoves$Cote" "doves" "[[I", Cond.methodLink RX0 70 yX0_sittingByDoves, Cond.instanceMethod yX0_sittingByDoves, Cond.selects RX0 yX0_sittingByDoves yX0_sittingByDoves, Cond.code yX0_sittingByDoves cX0_sittingByDoves 1 (some .int), Cond.methodLink RX0 76 yX0_placedAt, Cond.instanceMethod yX0_placedAt, Cond.selects RX0 yX0_placedAt yX0_placedAt, Cond.code yX0_placedAt cX0_placedAt 4 (some .int), Cond.methodLink RX0 73 yX0_sittingByHoles, Cond.instanceMethod yX0_sittingByHoles, Cond.selects RX0 yX0_sittingByHoles yX0_sittingByHoles, Cond.code yX0_sittingByHoles cX0_sittingByHoles 3 (some .int), Cond.fieldLink RX0 16 "LateDoves$Cote" "holes" "[[I", Cond.methodLink RX0 80 yX0_openHoles, Cond.instanceMethod yX0_openHoles, Cond.selects RX0 yX0_openHoles yX0_openHoles, Cond.code yX0_openHoles cX0_openHoles 3 (some .int), Cond.methodLink RX0 63 yX0_isOpen]
def wsL_count_r3 : List Cond := [Cond.instanceMethod yX0_isOpen, Cond.selects RX0 yX0_isOpen yX0_isOpen, Cond.code yX0_isOpen cX0_isOpen 2 (some .boolean), Cond.static yX3_isHole, Cond.code yX3_isHole cX3_isHole 1 (some .boolean), Cond.methodLink RX0 83 yX0_pairs, Cond.instanceMethod yX0_pairs, Cond.selects RX0 yX0_pairs yX0_pairs, Cond.code yX0_pairs cX0_pairs 3 (some .int)]
def wsL_count : List Cond := .codeWith yL_count cL_count 4 (some .int) [(0, 9, 12, 15)] :: ((wsL_count_r1 ++ (wsL_count_r2 ++ wsL_count_r3)) ++ wsX30 ++ wsX00 ++ (vx_atS RX3 56 "java/lang/IllegalArgumentException" ["java/lang/RuntimeException", "java/lang/Exception"]).filter goodWord)
def wsL_step : List Cond := .codeWith yL_step cL_step 5 (some .int) [(0, 10, 13, 15)] :: ([.classLink RL 15 "java/lang/IllegalArgumentException", .methodLink RL 63 yX3_step, .instanceMethod yX3_step, .selects RX3 yX3_step yX3_step, .initialized RX3, .code yX3_step cX3_step 3 (some .int), .classLink RX3 52 "java/lang/IllegalArgumentException", .initialized "java/lang/IllegalArgumentException", .fieldLink RX3 10 "LateDoves" "now" "LLateDoves$Cote;"] ++ wsX30 ++ wsX00 ++ wsX20 ++ (vx_atS RX3 56 "java/lang/IllegalArgumentException" ["java/lang/RuntimeException", "java/lang/Exception"]).filter goodWord)
def wsL_whyNot_r1 : List Cond := [Cond.classLink RL 13 "java/lang/IndexOutOfBoundsException", Cond.classLink RL 15 "java/lang/IllegalArgumentException", Cond.methodLink RL 66 yX3_whyNot, Cond.instanceMethod yX3_whyNot, Cond.selects RX3 yX3_whyNot yX3_whyNot, Cond.initialized RX3, Cond.code yX3_whyNot cX3_whyNot 3 (some .int), Cond.fieldLink RX3 10 "LateDoves" "now" "LLateDoves$Cote;", Cond.methodLink RX3 75 yX3_needDove, Cond.instanceMethod yX3_needDove, Cond.selects RX3 yX3_needDove yX3_needDove, Cond.code yX3_needDove cX3_needDove 2 none, Cond.classLink RX3 105 "java/lang/IndexOutOfBoundsException", Cond.initialized "java/lang/IndexOutOfBoundsException", Cond.methodLink RX3 232 yX0_exists, Cond.instanceMethod yX0_exists, Cond.selects RX0 yX0_exists yX0_exists, Cond.initialized RX0, Cond.code yX0_exists cX0_exists 2 (some .boolean), Cond.fieldLink RX0 11 "LateDoves$Cote" "doves" "[[I", Cond.methodLink RX3 115 yX3_needTime, Cond.static yX3_needTime, Cond.code yX3_needTime cX3_needTime 1 none, Cond.classLink RX3 52 "java/lang/IllegalArgumentException"]
def wsL_whyNot_r2 : List Cond := [Cond.initialized "java/lang/IllegalArgumentException", Cond.methodLink RX3 118 yX0_reasonNotHome, Cond.instanceMethod yX0_reasonNotHome, Cond.selects RX0 yX0_reasonNotHome yX0_reasonNotHome, Cond.code yX0_reasonNotHome cX0_reasonNotHome 3 (some .int), Cond.fieldLink RX0 50 "LateDoves$Cote" "time" "I"]
def wsL_whyNot : List Cond := .codeWith yL_whyNot cL_whyNot 5 (some .int) [(0, 10, 13, 13), (0, 10, 17, 15)] :: ((wsL_whyNot_r1 ++ wsL_whyNot_r2) ++ wsX30 ++ wsX00 ++ (vx_atS RX3 109 "java/lang/IndexOutOfBoundsException" ["java/lang/RuntimeException", "java/lang/Exception"]).filter goodWord ++ (vx_atS RX3 56 "java/lang/IllegalArgumentException" ["java/lang/RuntimeException", "java/lang/Exception"]).filter goodWord)
def wsL_ifHome_r1 : List Cond := [Cond.classLink RL 13 "java/lang/IndexOutOfBoundsException", Cond.classLink RL 15 "java/lang/IllegalArgumentException", Cond.methodLink RL 69 yX3_ifHome, Cond.instanceMethod yX3_ifHome, Cond.selects RX3 yX3_ifHome yX3_ifHome, Cond.initialized RX3, Cond.code yX3_ifHome cX3_ifHome 4 (some .int), Cond.classLink RX3 52 "java/lang/IllegalArgumentException", Cond.initialized "java/lang/IllegalArgumentException", Cond.methodLink RX3 75 yX3_needDove, Cond.instanceMethod yX3_needDove, Cond.selects RX3 yX3_needDove yX3_needDove, Cond.code yX3_needDove cX3_needDove 2 none, Cond.classLink RX3 105 "java/lang/IndexOutOfBoundsException", Cond.initialized "java/lang/IndexOutOfBoundsException", Cond.fieldLink RX3 10 "LateDoves" "now" "LLateDoves$Cote;", Cond.methodLink RX3 232 yX0_exists, Cond.instanceMethod yX0_exists, Cond.selects RX0 yX0_exists yX0_exists, Cond.initialized RX0, Cond.code yX0_exists cX0_exists 2 (some .boolean), Cond.fieldLink RX0 11 "LateDoves$Cote" "doves" "[[I", Cond.methodLink RX3 115 yX3_needTime, Cond.static yX3_needTime]
def wsL_ifHome_r2 : List Cond := [Cond.code yX3_needTime cX3_needTime 1 none, Cond.methodLink RX3 201 yX3_tryHome, Cond.instanceMethod yX3_tryHome, Cond.selects RX3 yX3_tryHome yX3_tryHome, Cond.code yX3_tryHome cX3_tryHome 3 (some .boolean), Cond.fieldLink RX3 16 "LateDoves" "trial" "LLateDoves$Cote;", Cond.methodLink RX3 118 yX0_reasonNotHome, Cond.instanceMethod yX0_reasonNotHome, Cond.selects RX0 yX0_reasonNotHome yX0_reasonNotHome, Cond.code yX0_reasonNotHome cX0_reasonNotHome 3 (some .int), Cond.fieldLink RX0 50 "LateDoves$Cote" "time" "I", Cond.methodLink RX3 159 yX0_copyFrom, Cond.instanceMethod yX0_copyFrom, Cond.selects RX0 yX0_copyFrom yX0_copyFrom, Cond.code yX0_copyFrom cX0_copyFrom 3 none, Cond.methodLink RX0 36 arraycopyName, Cond.native arraycopyName, Cond.static arraycopyName, Cond.initialized "java/lang/System", Cond.fieldLink RX0 16 "LateDoves$Cote" "holes" "[[I", Cond.fieldLink RX0 19 "LateDoves$Cote" "settings" "[I", Cond.fieldLink RX0 23 "LateDoves$Cote" "atDawn" "[I", Cond.fieldLink RX0 26 "LateDoves$Cote" "stop" "[I", Cond.fieldLink RX0 32 "LateDoves$Cote" "way" "LLateDoves$Way;"]
def wsL_ifHome_r3 : List Cond := [Cond.fieldLink RX0 46 "LateDoves$Cote" "day" "I", Cond.fieldLink RX0 53 "LateDoves$Cote" "shifts" "I", Cond.fieldLink RX0 56 "LateDoves$Cote" "quarrels" "I", Cond.methodLink RX0 42 yX2_copyFrom, Cond.instanceMethod yX2_copyFrom, Cond.selects RX2 yX2_copyFrom yX2_copyFrom, Cond.initialized RX2, Cond.code yX2_copyFrom cX2_copyFrom 2 none, Cond.fieldLink RX2 9 "LateDoves$Way" "who" "[I", Cond.methodLink RX2 22 arraycopyName, Cond.fieldLink RX2 15 "LateDoves$Way" "where" "[I", Cond.fieldLink RX2 18 "LateDoves$Way" "size" "I", Cond.methodLink RX3 123 yX0_comeHome, Cond.instanceMethod yX0_comeHome, Cond.selects RX0 yX0_comeHome yX0_comeHome, Cond.code yX0_comeHome cX0_comeHome 8 (some .int), Cond.methodLink RX0 63 yX0_isOpen, Cond.instanceMethod yX0_isOpen, Cond.selects RX0 yX0_isOpen yX0_isOpen, Cond.code yX0_isOpen cX0_isOpen 2 (some .boolean), Cond.static yX3_isHole, Cond.code yX3_isHole cX3_isHole 1 (some .boolean), Cond.methodLink RX0 92 yX0_enterOwnHole, Cond.instanceMethod yX0_enterOwnHole]
def wsL_ifHome_r4 : List Cond := [Cond.selects RX0 yX0_enterOwnHole yX0_enterOwnHole, Cond.code yX0_enterOwnHole cX0_enterOwnHole 5 (some .int), Cond.methodLink RX0 86 yX0_exists, Cond.methodLink RX0 99 yX0_shiftFrom, Cond.instanceMethod yX0_shiftFrom, Cond.selects RX0 yX0_shiftFrom yX0_shiftFrom, Cond.code yX0_shiftFrom cX0_shiftFrom 4 (some .int), Cond.methodLink RX0 103 yX0_sit, Cond.instanceMethod yX0_sit, Cond.selects RX0 yX0_sit yX0_sit, Cond.code yX0_sit cX0_sit 3 none, Cond.methodLink RX0 113 yX2_note, Cond.instanceMethod yX2_note, Cond.selects RX2 yX2_note yX2_note, Cond.code yX2_note cX2_note 3 none, Cond.methodLink RX0 96 yX0_settle, Cond.instanceMethod yX0_settle, Cond.selects RX0 yX0_settle yX0_settle, Cond.code yX0_settle cX0_settle 6 (some .int), Cond.methodLink RX0 107 yX0_firstFreeFor, Cond.instanceMethod yX0_firstFreeFor, Cond.selects RX0 yX0_firstFreeFor yX0_firstFreeFor, Cond.code yX0_firstFreeFor cX0_firstFreeFor 6 (some .int), Cond.methodLink RX0 110 yX0_isFree]
def wsL_ifHome_r5 : List Cond := [Cond.instanceMethod yX0_isFree, Cond.selects RX0 yX0_isFree yX0_isFree, Cond.code yX0_isFree cX0_isFree 2 (some .boolean), Cond.methodLink RX3 205 yX3_trialNumber, Cond.instanceMethod yX3_trialNumber, Cond.selects RX3 yX3_trialNumber yX3_trialNumber, Cond.code yX3_trialNumber cX3_trialNumber 3 (some .int), Cond.methodLink RX3 296 yX0_placedAt, Cond.instanceMethod yX0_placedAt, Cond.selects RX0 yX0_placedAt yX0_placedAt, Cond.code yX0_placedAt cX0_placedAt 4 (some .int)]
def wsL_ifHome : List Cond := .codeWith yL_ifHome cL_ifHome 6 (some .int) [(0, 12, 15, 13), (0, 12, 19, 15)] :: ((wsL_ifHome_r1 ++ (wsL_ifHome_r2 ++ (wsL_ifHome_r3 ++ (wsL_ifHome_r4 ++ wsL_ifHome_r5)))) ++ wsX30 ++ wsX00 ++ wsX20 ++ (vx_atS RX3 56 "java/lang/IllegalArgumentException" ["java/lang/RuntimeException", "java/lang/Exception"]).filter goodWord ++ (vx_atS RX3 109 "java/lang/IndexOutOfBoundsException" ["java/lang/RuntimeException", "java/lang/Exception"]).filter goodWord)
def wsL_law0_r1 : List Cond := [Cond.classLink RL 8 RX3, Cond.instantiable RX3 9, Cond.initialized RX3, Cond.classLink RL 74 RX4, Cond.instantiable RX4 12, Cond.initialized RX4, Cond.arrayClass .long, Cond.methodLink RL 73 yX3_init, Cond.instanceMethod yX3_init, Cond.code yX3_init cX3_init 2 none, Cond.methodLink RX3 1 objectInit, Cond.instanceMethod objectInit, Cond.code objectInit ⟨#[0xb1]⟩ 1 none, Cond.classLink RX3 7 RX0, Cond.instantiable RX0 10, Cond.initialized RX0, Cond.fieldLink RX3 10 "LateDoves" "now" "LLateDoves$Cote;", Cond.fieldLink RX3 16 "LateDoves" "trial" "LLateDoves$Cote;", Cond.fieldLink RX3 19 "LateDoves" "snapshot" "LLateDoves$Cote;", Cond.fieldLink RX3 22 "LateDoves" "hasSnapshot" "Z", Cond.fieldLink RX3 26 "LateDoves" "saved" "[LLateDoves$Cote;", Cond.fieldLink RX3 30 "LateDoves" "savedCount" "I", Cond.arrayClass .int, Cond.fieldLink RX3 34 "LateDoves" "buffer" "[I"]
def wsL_law0_r2 : List Cond := [Cond.fieldLink RX3 38 "LateDoves" "length" "I", Cond.classLink RX3 41 RX1, Cond.instantiable RX1 4, Cond.initialized RX1, Cond.fieldLink RX3 44 "LateDoves" "reader" "LLateDoves$PartReader;", Cond.methodLink RX3 9 yX0_init, Cond.instanceMethod yX0_init, Cond.code yX0_init cX0_init 2 none, Cond.methodLink RX0 3 objectInit, Cond.classLink RX0 9 "[[I", Cond.fieldLink RX0 11 "LateDoves$Cote" "doves" "[[I", Cond.fieldLink RX0 16 "LateDoves$Cote" "holes" "[[I", Cond.fieldLink RX0 19 "LateDoves$Cote" "settings" "[I", Cond.fieldLink RX0 23 "LateDoves$Cote" "atDawn" "[I", Cond.fieldLink RX0 26 "LateDoves$Cote" "stop" "[I", Cond.classLink RX0 29 RX2, Cond.instantiable RX2 3, Cond.initialized RX2, Cond.fieldLink RX0 32 "LateDoves$Cote" "way" "LLateDoves$Way;", Cond.methodLink RX0 31 yX2_init, Cond.instanceMethod yX2_init, Cond.code yX2_init cX2_init 1 none, Cond.methodLink RX2 3 objectInit, Cond.fieldLink RX2 9 "LateDoves$Way" "who" "[I"]
def wsL_law0_r3 : List Cond := [Cond.fieldLink RX2 15 "LateDoves$Way" "where" "[I", Cond.fieldLink RX2 18 "LateDoves$Way" "size" "I", Cond.methodLink RX3 43 yX1_init, Cond.instanceMethod yX1_init, Cond.code yX1_init cX1_init 1 none, Cond.methodLink RX1 3 objectInit, Cond.fieldLink RX1 11 "LateDoves$PartReader" "stage" "I", Cond.fieldLink RX1 15 "LateDoves$PartReader" "kind" "I", Cond.fieldLink RX1 18 "LateDoves$PartReader" "first" "I", Cond.fieldLink RX1 21 "LateDoves$PartReader" "second" "I", Cond.methodLink RL 76 yX4_init, Cond.instanceMethod yX4_init, Cond.code yX4_init cX4_init 1 none, Cond.methodLink RX4 1 objectInit, Cond.fieldLink RX4 7 "LateDovesModel" "z" "[I", Cond.fieldLink RX4 13 "LateDovesModel" "aside" "[I", Cond.fieldLink RX4 16 "LateDovesModel" "saved" "[I", Cond.fieldLink RX4 19 "LateDovesModel" "kept" "[I", Cond.fieldLink RX4 22 "LateDovesModel" "text" "[I", Cond.methodLink RL 77 yL_buy, Cond.static yL_buy, Cond.initialized RL, Cond.codeWith yL_buy cL_buy 5 (some .int) [(0, 10, 13, 13), (0, 10, 17, 15), (0, 10, 21, 17)], Cond.classLink RL 13 "java/lang/IndexOutOfBoundsException"]
def wsL_law0_r4 : List Cond := [Cond.classLink RL 15 "java/lang/IllegalArgumentException", Cond.classLink RL 17 "java/lang/IllegalStateException", Cond.methodLink RL 7 yX3_buy, Cond.instanceMethod yX3_buy, Cond.selects RX3 yX3_buy yX3_buy, Cond.code yX3_buy cX3_buy 3 (some .int), Cond.classLink RX3 52 "java/lang/IllegalArgumentException", Cond.initialized "java/lang/IllegalArgumentException", Cond.classLink RX3 63 "java/lang/IllegalStateException", Cond.initialized "java/lang/IllegalStateException", Cond.methodLink RX3 48 yX3_needHole, Cond.static yX3_needHole, Cond.code yX3_needHole cX3_needHole 1 none, Cond.classLink RX3 105 "java/lang/IndexOutOfBoundsException", Cond.initialized "java/lang/IndexOutOfBoundsException", Cond.methodLink RX3 257 yX3_isHole, Cond.static yX3_isHole, Cond.code yX3_isHole cX3_isHole 1 (some .boolean), Cond.methodLink RX3 59 yX0_reasonNotToBuy, Cond.instanceMethod yX0_reasonNotToBuy, Cond.selects RX0 yX0_reasonNotToBuy yX0_reasonNotToBuy, Cond.code yX0_reasonNotToBuy cX0_reasonNotToBuy 2 (some .int), Cond.methodLink RX0 66 yX0_doveCount, Cond.instanceMethod yX0_doveCount]
def wsL_law0_r5 : List Cond := [Cond.selects RX0 yX0_doveCount yX0_doveCount, Cond.code yX0_doveCount cX0_doveCount 3 (some .int), Cond.methodLink RX0 86 yX0_exists, Cond.instanceMethod yX0_exists, Cond.selects RX0 yX0_exists yX0_exists, Cond.code yX0_exists cX0_exists 2 (some .boolean), Cond.methodLink RX0 63 yX0_isOpen, Cond.instanceMethod yX0_isOpen, Cond.selects RX0 yX0_isOpen yX0_isOpen, Cond.code yX0_isOpen cX0_isOpen 2 (some .boolean), Cond.methodLink RX3 68 yX3_save, Cond.instanceMethod yX3_save, Cond.selects RX3 yX3_save yX3_save, Cond.code yX3_save cX3_save 3 none, Cond.methodLink RX3 159 yX0_copyFrom, Cond.instanceMethod yX0_copyFrom, Cond.selects RX0 yX0_copyFrom yX0_copyFrom, Cond.code yX0_copyFrom cX0_copyFrom 3 none, Cond.methodLink RX0 36 arraycopyName, Cond.native arraycopyName, Cond.static arraycopyName, Cond.initialized "java/lang/System", Cond.fieldLink RX0 46 "LateDoves$Cote" "day" "I", Cond.fieldLink RX0 50 "LateDoves$Cote" "time" "I"]
def wsL_law0_r6 : List Cond := [Cond.fieldLink RX0 53 "LateDoves$Cote" "shifts" "I", Cond.fieldLink RX0 56 "LateDoves$Cote" "quarrels" "I", Cond.methodLink RX0 42 yX2_copyFrom, Cond.instanceMethod yX2_copyFrom, Cond.selects RX2 yX2_copyFrom yX2_copyFrom, Cond.code yX2_copyFrom cX2_copyFrom 2 none, Cond.methodLink RX2 22 arraycopyName, Cond.methodLink RX3 71 yX0_addDove, Cond.instanceMethod yX0_addDove, Cond.selects RX0 yX0_addDove yX0_addDove, Cond.code yX0_addDove cX0_addDove 4 (some .int), Cond.methodLink RL 82 yX4_buy, Cond.instanceMethod yX4_buy, Cond.selects RX4 yX4_buy yX4_buy, Cond.code yX4_buy cX4_buy 3 (some .int), Cond.fieldLink RX4 25 "LateDovesModel" "thrown" "I", Cond.methodLink RX4 58 yX4_isHole, Cond.static yX4_isHole, Cond.code yX4_isHole cX4_isHole 1 (some .boolean), Cond.methodLink RX4 29 yX4_in, Cond.static yX4_in, Cond.code yX4_in cX4_in 3 (some .boolean), Cond.methodLink RX4 97 yX4_whyNoDove, Cond.instanceMethod yX4_whyNoDove]
def wsL_law0_r7 : List Cond := [Cond.selects RX4 yX4_whyNoDove yX4_whyNoDove, Cond.code yX4_whyNoDove cX4_whyNoDove 2 (some .int), Cond.methodLink RX4 91 yX4_allDoves, Cond.instanceMethod yX4_allDoves, Cond.selects RX4 yX4_allDoves yX4_allDoves, Cond.code yX4_allDoves cX4_allDoves 3 (some .int), Cond.methodLink RX4 33 yX4_of, Cond.instanceMethod yX4_of, Cond.selects RX4 yX4_of yX4_of, Cond.code yX4_of cX4_of 3 (some .int), Cond.methodLink RX4 94 yX4_ownerOf, Cond.instanceMethod yX4_ownerOf, Cond.selects RX4 yX4_ownerOf yX4_ownerOf, Cond.code yX4_ownerOf cX4_ownerOf 4 (some .int), Cond.methodLink RX4 37 yX4_isDove, Cond.instanceMethod yX4_isDove, Cond.selects RX4 yX4_isDove yX4_isDove, Cond.code yX4_isDove cX4_isDove 2 (some .boolean), Cond.methodLink RX4 41 yX4_isOpen, Cond.instanceMethod yX4_isOpen, Cond.selects RX4 yX4_isOpen yX4_isOpen, Cond.code yX4_isOpen cX4_isOpen 2 (some .boolean), Cond.methodLink RX4 51 yX4_record, Cond.instanceMethod yX4_record]
def wsL_law0_r8 : List Cond := [Cond.selects RX4 yX4_record yX4_record, Cond.code yX4_record cX4_record 2 none, Cond.fieldLink RX4 44 "LateDovesModel" "saves" "I", Cond.methodLink RX4 100 yX4_doBuy, Cond.instanceMethod yX4_doBuy, Cond.selects RX4 yX4_doBuy yX4_doBuy, Cond.code yX4_doBuy cX4_doBuy 5 (some .int), Cond.methodLink RX4 64 yX4_put, Cond.instanceMethod yX4_put, Cond.selects RX4 yX4_put yX4_put, Cond.code yX4_put cX4_put 4 none, Cond.methodLink RL 83 yX4_thrown, Cond.instanceMethod yX4_thrown, Cond.selects RX4 yX4_thrown yX4_thrown, Cond.code yX4_thrown cX4_thrown 1 (some .int), Cond.methodLink RL 86 yL_sell, Cond.static yL_sell, Cond.codeWith yL_sell cL_sell 4 (some .int) [(0, 9, 12, 13)], Cond.methodLink RL 19 yX3_sell, Cond.instanceMethod yX3_sell, Cond.selects RX3 yX3_sell yX3_sell, Cond.code yX3_sell cX3_sell 2 (some .int), Cond.methodLink RX3 75 yX3_needDove, Cond.instanceMethod yX3_needDove]
def wsL_law0_r9 : List Cond := [Cond.selects RX3 yX3_needDove yX3_needDove, Cond.code yX3_needDove cX3_needDove 2 none, Cond.methodLink RX3 232 yX0_exists, Cond.methodLink RX3 78 yX0_removeDove, Cond.instanceMethod yX0_removeDove, Cond.selects RX0 yX0_removeDove yX0_removeDove, Cond.code yX0_removeDove cX0_removeDove 6 (some .int), Cond.methodLink RL 89 yX4_sell, Cond.instanceMethod yX4_sell, Cond.selects RX4 yX4_sell yX4_sell, Cond.code yX4_sell cX4_sell 3 (some .int), Cond.methodLink RL 90 yL_mate, Cond.static yL_mate, Cond.codeWith yL_mate cL_mate 5 (some .int) [(0, 10, 13, 13), (0, 10, 17, 17)], Cond.methodLink RL 23 yX3_mate, Cond.instanceMethod yX3_mate, Cond.selects RX3 yX3_mate yX3_mate, Cond.code yX3_mate cX3_mate 3 (some .int), Cond.methodLink RX3 81 yX0_reasonNotToPair, Cond.instanceMethod yX0_reasonNotToPair, Cond.selects RX0 yX0_reasonNotToPair yX0_reasonNotToPair, Cond.code yX0_reasonNotToPair cX0_reasonNotToPair 4 (some .int), Cond.methodLink RX3 86 yX0_pair, Cond.instanceMethod yX0_pair]
def wsL_law0_r10 : List Cond := [Cond.selects RX0 yX0_pair yX0_pair, Cond.code yX0_pair cX0_pair 3 none, Cond.methodLink RX3 90 yX0_pairs, Cond.instanceMethod yX0_pairs, Cond.selects RX0 yX0_pairs yX0_pairs, Cond.code yX0_pairs cX0_pairs 3 (some .int), Cond.methodLink RL 92 yX4_mate, Cond.instanceMethod yX4_mate, Cond.selects RX4 yX4_mate yX4_mate, Cond.code yX4_mate cX4_mate 3 (some .int), Cond.methodLink RX4 106 yX4_whyNoMates, Cond.instanceMethod yX4_whyNoMates, Cond.selects RX4 yX4_whyNoMates yX4_whyNoMates, Cond.code yX4_whyNoMates cX4_whyNoMates 3 (some .int), Cond.methodLink RX4 109 yX4_doMate, Cond.instanceMethod yX4_doMate, Cond.selects RX4 yX4_doMate yX4_doMate, Cond.code yX4_doMate cX4_doMate 3 (some .int), Cond.methodLink RX4 103 yX4_pairs, Cond.instanceMethod yX4_pairs, Cond.selects RX4 yX4_pairs yX4_pairs, Cond.code yX4_pairs cX4_pairs 3 (some .int), Cond.methodLink RL 93 yL_shut, Cond.static yL_shut]
def wsL_law0_r11 : List Cond := [Cond.codeWith yL_shut cL_shut 4 (some .int) [(0, 9, 12, 13), (0, 9, 15, 17)], Cond.methodLink RL 26 yX3_shut, Cond.instanceMethod yX3_shut, Cond.selects RX3 yX3_shut yX3_shut, Cond.code yX3_shut cX3_shut 2 (some .int), Cond.methodLink RX3 94 yX0_reasonNotToShut, Cond.instanceMethod yX0_reasonNotToShut, Cond.selects RX0 yX0_reasonNotToShut yX0_reasonNotToShut, Cond.code yX0_reasonNotToShut cX0_reasonNotToShut 2 (some .int), Cond.methodLink RX3 99 yX0_setOpen, Cond.instanceMethod yX0_setOpen, Cond.selects RX0 yX0_setOpen yX0_setOpen, Cond.code yX0_setOpen cX0_setOpen 3 none, Cond.methodLink RX3 102 yX0_openHoles, Cond.instanceMethod yX0_openHoles, Cond.selects RX0 yX0_openHoles yX0_openHoles, Cond.code yX0_openHoles cX0_openHoles 3 (some .int), Cond.methodLink RL 95 yX4_shut, Cond.instanceMethod yX4_shut, Cond.selects RX4 yX4_shut yX4_shut, Cond.code yX4_shut cX4_shut 2 (some .int), Cond.methodLink RX4 112 yX4_whyNoShut, Cond.instanceMethod yX4_whyNoShut, Cond.selects RX4 yX4_whyNoShut yX4_whyNoShut]
def wsL_law0_r12 : List Cond := [Cond.code yX4_whyNoShut cX4_whyNoShut 2 (some .int), Cond.methodLink RX4 54 yX4_sitter, Cond.instanceMethod yX4_sitter, Cond.selects RX4 yX4_sitter yX4_sitter, Cond.code yX4_sitter cX4_sitter 4 (some .int), Cond.methodLink RX4 115 yX4_openHoles, Cond.instanceMethod yX4_openHoles, Cond.selects RX4 yX4_openHoles yX4_openHoles, Cond.code yX4_openHoles cX4_openHoles 3 (some .int), Cond.methodLink RL 96 yL_open, Cond.static yL_open, Cond.codeWith yL_open cL_open 4 (some .int) [(0, 9, 12, 13)], Cond.methodLink RL 29 yX3_open, Cond.instanceMethod yX3_open, Cond.selects RX3 yX3_open yX3_open, Cond.code yX3_open cX3_open 2 (some .int), Cond.methodLink RL 98 yX4_open, Cond.instanceMethod yX4_open, Cond.selects RX4 yX4_open yX4_open, Cond.code yX4_open cX4_open 2 (some .int), Cond.methodLink RL 99 yL_set, Cond.static yL_set, Cond.codeWith yL_set cL_set 5 (some .int) [(0, 10, 13, 13), (0, 10, 17, 15)], Cond.methodLink RL 32 yX3_set]
def wsL_law0_r13 : List Cond := [Cond.instanceMethod yX3_set, Cond.selects RX3 yX3_set yX3_set, Cond.code yX3_set cX3_set 5 (some .int), Cond.methodLink RL 101 yX4_set, Cond.instanceMethod yX4_set, Cond.selects RX4 yX4_set yX4_set, Cond.code yX4_set cX4_set 4 (some .int), Cond.methodLink RL 102 yL_home, Cond.static yL_home, Cond.codeWith yL_home cL_home 5 (some .int) [(0, 10, 13, 13), (0, 10, 17, 15), (0, 10, 21, 17)], Cond.methodLink RL 35 yX3_home, Cond.instanceMethod yX3_home, Cond.selects RX3 yX3_home yX3_home, Cond.code yX3_home cX3_home 3 (some .int), Cond.methodLink RX3 115 yX3_needTime, Cond.static yX3_needTime, Cond.code yX3_needTime cX3_needTime 1 none, Cond.methodLink RX3 118 yX0_reasonNotHome, Cond.instanceMethod yX0_reasonNotHome, Cond.selects RX0 yX0_reasonNotHome yX0_reasonNotHome, Cond.code yX0_reasonNotHome cX0_reasonNotHome 3 (some .int), Cond.methodLink RX3 123 yX0_comeHome, Cond.instanceMethod yX0_comeHome, Cond.selects RX0 yX0_comeHome yX0_comeHome]
def wsL_law0_r14 : List Cond := [Cond.code yX0_comeHome cX0_comeHome 8 (some .int), Cond.methodLink RX0 92 yX0_enterOwnHole, Cond.instanceMethod yX0_enterOwnHole, Cond.selects RX0 yX0_enterOwnHole yX0_enterOwnHole, Cond.code yX0_enterOwnHole cX0_enterOwnHole 5 (some .int), Cond.methodLink RX0 99 yX0_shiftFrom, Cond.instanceMethod yX0_shiftFrom, Cond.selects RX0 yX0_shiftFrom yX0_shiftFrom, Cond.code yX0_shiftFrom cX0_shiftFrom 4 (some .int), Cond.methodLink RX0 103 yX0_sit, Cond.instanceMethod yX0_sit, Cond.selects RX0 yX0_sit yX0_sit, Cond.code yX0_sit cX0_sit 3 none, Cond.methodLink RX0 113 yX2_note, Cond.instanceMethod yX2_note, Cond.selects RX2 yX2_note yX2_note, Cond.code yX2_note cX2_note 3 none, Cond.methodLink RX0 96 yX0_settle, Cond.instanceMethod yX0_settle, Cond.selects RX0 yX0_settle yX0_settle, Cond.code yX0_settle cX0_settle 6 (some .int), Cond.methodLink RX0 107 yX0_firstFreeFor, Cond.instanceMethod yX0_firstFreeFor, Cond.selects RX0 yX0_firstFreeFor yX0_firstFreeFor]
def wsL_law0_r15 : List Cond := [Cond.code yX0_firstFreeFor cX0_firstFreeFor 6 (some .int), Cond.methodLink RX0 110 yX0_isFree, Cond.instanceMethod yX0_isFree, Cond.selects RX0 yX0_isFree yX0_isFree, Cond.code yX0_isFree cX0_isFree 2 (some .boolean), Cond.methodLink RL 104 yX4_home, Cond.instanceMethod yX4_home, Cond.selects RX4 yX4_home yX4_home, Cond.code yX4_home cX4_home 3 (some .int), Cond.methodLink RX4 78 yX4_whyNoHome, Cond.instanceMethod yX4_whyNoHome, Cond.selects RX4 yX4_whyNoHome yX4_whyNoHome, Cond.code yX4_whyNoHome cX4_whyNoHome 3 (some .int), Cond.methodLink RX4 81 yX4_doHome, Cond.instanceMethod yX4_doHome, Cond.selects RX4 yX4_doHome yX4_doHome, Cond.code yX4_doHome cX4_doHome 10 (some .int), Cond.methodLink RX4 68 yX4_countShift, Cond.instanceMethod yX4_countShift, Cond.selects RX4 yX4_countShift yX4_countShift, Cond.code yX4_countShift cX4_countShift 3 none, Cond.methodLink RX4 72 yX4_sit, Cond.instanceMethod yX4_sit, Cond.selects RX4 yX4_sit yX4_sit]
def wsL_law0_r16 : List Cond := [Cond.code yX4_sit cX4_sit 3 none, Cond.methodLink RX4 75 yX4_freeFor, Cond.instanceMethod yX4_freeFor, Cond.selects RX4 yX4_freeFor yX4_freeFor, Cond.code yX4_freeFor cX4_freeFor 5 (some .int), Cond.methodLink RX4 61 yX4_isFree, Cond.instanceMethod yX4_isFree, Cond.selects RX4 yX4_isFree yX4_isFree, Cond.code yX4_isFree cX4_isFree 2 (some .boolean), Cond.methodLink RL 105 yX3_dawn, Cond.instanceMethod yX3_dawn, Cond.selects RX3 yX3_dawn yX3_dawn, Cond.code yX3_dawn cX3_dawn 1 (some .int), Cond.methodLink RX3 126 yX0_endNight, Cond.instanceMethod yX0_endNight, Cond.selects RX0 yX0_endNight yX0_endNight, Cond.code yX0_endNight cX0_endNight 2 (some .int), Cond.methodLink RX0 116 yX0_countAtDawn, Cond.instanceMethod yX0_countAtDawn, Cond.selects RX0 yX0_countAtDawn yX0_countAtDawn, Cond.code yX0_countAtDawn cX0_countAtDawn 3 none, Cond.methodLink RL 108 yX4_dawn, Cond.instanceMethod yX4_dawn, Cond.selects RX4 yX4_dawn yX4_dawn]
def wsL_law0_r17 : List Cond := [Cond.code yX4_dawn cX4_dawn 1 (some .int), Cond.methodLink RX4 87 yX4_doDawn, Cond.instanceMethod yX4_doDawn, Cond.selects RX4 yX4_doDawn yX4_doDawn, Cond.code yX4_doDawn cX4_doDawn 5 (some .int), Cond.methodLink RX4 84 yX4_dovesAt, Cond.instanceMethod yX4_dovesAt, Cond.selects RX4 yX4_dovesAt yX4_dovesAt, Cond.code yX4_dovesAt cX4_dovesAt 5 (some .int), Cond.methodLink RL 109 yL_append, Cond.static yL_append, Cond.codeWith yL_append cL_append 4 (some .int) [(0, 9, 12, 15), (0, 9, 15, 17)], Cond.methodLink RL 38 yX3_append, Cond.instanceMethod yX3_append, Cond.selects RX3 yX3_append yX3_append, Cond.code yX3_append cX3_append 2 (some .int), Cond.methodLink RL 111 yX4_append, Cond.instanceMethod yX4_append, Cond.selects RX4 yX4_append yX4_append, Cond.code yX4_append cX4_append 2 (some .int), Cond.fieldLink RX4 118 "LateDovesModel" "length" "I", Cond.methodLink RL 112 yX3_clearBuffer, Cond.instanceMethod yX3_clearBuffer, Cond.selects RX3 yX3_clearBuffer yX3_clearBuffer]
def wsL_law0_r18 : List Cond := [Cond.code yX3_clearBuffer cX3_clearBuffer 2 (some .int), Cond.methodLink RL 115 yX4_clearBuffer, Cond.instanceMethod yX4_clearBuffer, Cond.selects RX4 yX4_clearBuffer yX4_clearBuffer, Cond.code yX4_clearBuffer cX4_clearBuffer 2 (some .int), Cond.methodLink RL 116 yX3_firstError, Cond.instanceMethod yX3_firstError, Cond.selects RX3 yX3_firstError yX3_firstError, Cond.code yX3_firstError cX3_firstError 2 (some .int), Cond.methodLink RX3 133 yX1_begin, Cond.instanceMethod yX1_begin, Cond.selects RX1 yX1_begin yX1_begin, Cond.code yX1_begin cX1_begin 1 none, Cond.methodLink RX3 136 yX1_take, Cond.instanceMethod yX1_take, Cond.selects RX1 yX1_take yX1_take, Cond.code yX1_take cX1_take 2 (some .boolean), Cond.methodLink RX1 24 yX1_takeLetter, Cond.instanceMethod yX1_takeLetter, Cond.selects RX1 yX1_takeLetter yX1_takeLetter, Cond.code yX1_takeLetter cX1_takeLetter 2 (some .boolean), Cond.methodLink RX1 28 yX1_takeEnd, Cond.instanceMethod yX1_takeEnd, Cond.selects RX1 yX1_takeEnd yX1_takeEnd]
def wsL_law0_r19 : List Cond := [Cond.code yX1_takeEnd cX1_takeEnd 1 (some .boolean), Cond.methodLink RX1 42 yX1_isComplete, Cond.instanceMethod yX1_isComplete, Cond.selects RX1 yX1_isComplete yX1_isComplete, Cond.code yX1_isComplete cX1_isComplete 1 (some .boolean), Cond.methodLink RX1 38 yX1_signBehindFirst, Cond.instanceMethod yX1_signBehindFirst, Cond.selects RX1 yX1_signBehindFirst yX1_signBehindFirst, Cond.code yX1_signBehindFirst cX1_signBehindFirst 1 (some .int), Cond.methodLink RX1 45 yX1_begin, Cond.methodLink RX1 32 yX1_takeDigit, Cond.instanceMethod yX1_takeDigit, Cond.selects RX1 yX1_takeDigit yX1_takeDigit, Cond.code yX1_takeDigit cX1_takeDigit 3 (some .boolean), Cond.methodLink RX1 48 yX1_grown, Cond.static yX1_grown, Cond.code yX1_grown cX1_grown 2 (some .int), Cond.methodLink RX1 52 yX1_highestFirst, Cond.instanceMethod yX1_highestFirst, Cond.selects RX1 yX1_highestFirst yX1_highestFirst, Cond.code yX1_highestFirst cX1_highestFirst 1 (some .int), Cond.methodLink RX1 55 yX1_lowestSecond, Cond.instanceMethod yX1_lowestSecond, Cond.selects RX1 yX1_lowestSecond yX1_lowestSecond]
def wsL_law0_r20 : List Cond := [Cond.code yX1_lowestSecond cX1_lowestSecond 1 (some .int), Cond.methodLink RX1 58 yX1_highestSecond, Cond.instanceMethod yX1_highestSecond, Cond.selects RX1 yX1_highestSecond yX1_highestSecond, Cond.code yX1_highestSecond cX1_highestSecond 1 (some .int), Cond.methodLink RX1 35 yX1_takeSign, Cond.instanceMethod yX1_takeSign, Cond.selects RX1 yX1_takeSign yX1_takeSign, Cond.code yX1_takeSign cX1_takeSign 2 (some .boolean), Cond.methodLink RL 119 yX4_firstError, Cond.instanceMethod yX4_firstError, Cond.selects RX4 yX4_firstError yX4_firstError, Cond.code yX4_firstError cX4_firstError 2 (some .int), Cond.methodLink RX4 144 yX4_findError, Cond.instanceMethod yX4_findError, Cond.selects RX4 yX4_findError yX4_findError, Cond.code yX4_findError cX4_findError 2 (some .int), Cond.methodLink RX4 141 yX4_readPart, Cond.instanceMethod yX4_readPart, Cond.selects RX4 yX4_readPart yX4_readPart, Cond.code yX4_readPart cX4_readPart 2 (some .int), Cond.fieldLink RX4 134 "LateDovesModel" "letter" "I", Cond.methodLink RX4 121 yX4_at, Cond.instanceMethod yX4_at]
def wsL_law0_r21 : List Cond := [Cond.selects RX4 yX4_at yX4_at, Cond.code yX4_at cX4_at 2 (some .int), Cond.methodLink RX4 137 yX4_readTwo, Cond.instanceMethod yX4_readTwo, Cond.selects RX4 yX4_readTwo yX4_readTwo, Cond.code yX4_readTwo cX4_readTwo 7 (some .int), Cond.fieldLink RX4 124 "LateDovesModel" "second" "I", Cond.fieldLink RX4 131 "LateDovesModel" "first" "I", Cond.methodLink RX4 127 yX4_readNumber, Cond.instanceMethod yX4_readNumber, Cond.selects RX4 yX4_readNumber yX4_readNumber, Cond.code yX4_readNumber cX4_readNumber 5 (some .int), Cond.methodLink RL 120 yL_pass, Cond.static yL_pass, Cond.codeWith yL_pass cL_pass 3 (some .int) [(0, 8, 11, 15)], Cond.methodLink RL 41 yX3_pass, Cond.instanceMethod yX3_pass, Cond.selects RX3 yX3_pass yX3_pass, Cond.code yX3_pass cX3_pass 2 (some .int), Cond.methodLink RX3 140 yX3_firstError, Cond.methodLink RX3 143 yX1_isComplete, Cond.methodLink RX3 149 yX3_playEvening, Cond.instanceMethod yX3_playEvening, Cond.selects RX3 yX3_playEvening yX3_playEvening]
def wsL_law0_r22 : List Cond := [Cond.code yX3_playEvening cX3_playEvening 4 (some .int), Cond.methodLink RX3 266 yX0_noteStop, Cond.instanceMethod yX0_noteStop, Cond.selects RX0 yX0_noteStop yX0_noteStop, Cond.code yX0_noteStop cX0_noteStop 3 none, Cond.methodLink RX3 269 yX3_playPart, Cond.instanceMethod yX3_playPart, Cond.selects RX3 yX3_playPart yX3_playPart, Cond.code yX3_playPart cX3_playPart 3 (some .int), Cond.methodLink RX3 281 yX3_playHome, Cond.instanceMethod yX3_playHome, Cond.selects RX3 yX3_playHome yX3_playHome, Cond.code yX3_playHome cX3_playHome 4 (some .int), Cond.methodLink RX3 284 yX3_playBuy, Cond.instanceMethod yX3_playBuy, Cond.selects RX3 yX3_playBuy yX3_playBuy, Cond.code yX3_playBuy cX3_playBuy 4 (some .int), Cond.methodLink RX3 287 yX3_playMate, Cond.instanceMethod yX3_playMate, Cond.selects RX3 yX3_playMate yX3_playMate, Cond.code yX3_playMate cX3_playMate 4 (some .int), Cond.methodLink RX3 290 yX3_playShut, Cond.instanceMethod yX3_playShut, Cond.selects RX3 yX3_playShut yX3_playShut]
def wsL_law0_r23 : List Cond := [Cond.code yX3_playShut cX3_playShut 3 (some .int), Cond.methodLink RL 123 yX4_pass, Cond.instanceMethod yX4_pass, Cond.selects RX4 yX4_pass yX4_pass, Cond.code yX4_pass cX4_pass 5 (some .int), Cond.methodLink RX4 147 yX4_whyNoPart, Cond.instanceMethod yX4_whyNoPart, Cond.selects RX4 yX4_whyNoPart yX4_whyNoPart, Cond.code yX4_whyNoPart cX4_whyNoPart 1 (some .int), Cond.methodLink RX4 150 yX4_doPart, Cond.instanceMethod yX4_doPart, Cond.selects RX4 yX4_doPart yX4_doPart, Cond.code yX4_doPart cX4_doPart 1 (some .int), Cond.methodLink RL 124 yL_stopped, Cond.static yL_stopped, Cond.codeWith yL_stopped cL_stopped 4 (some .int) [(0, 9, 12, 15)], Cond.methodLink RL 45 yX3_stopped, Cond.instanceMethod yX3_stopped, Cond.selects RX3 yX3_stopped yX3_stopped, Cond.code yX3_stopped cX3_stopped 2 (some .int), Cond.methodLink RL 126 yX4_stopped, Cond.instanceMethod yX4_stopped, Cond.selects RX4 yX4_stopped yX4_stopped, Cond.code yX4_stopped cX4_stopped 2 (some .int)]
def wsL_law0_r24 : List Cond := [Cond.methodLink RL 127 yL_undo, Cond.static yL_undo, Cond.codeWith yL_undo cL_undo 3 (some .int) [(0, 8, 11, 17)], Cond.methodLink RL 48 yX3_undo, Cond.instanceMethod yX3_undo, Cond.selects RX3 yX3_undo yX3_undo, Cond.code yX3_undo cX3_undo 1 (some .int), Cond.methodLink RL 129 yX4_undo, Cond.instanceMethod yX4_undo, Cond.selects RX4 yX4_undo yX4_undo, Cond.code yX4_undo cX4_undo 2 (some .int), Cond.methodLink RL 130 yX3_keep, Cond.instanceMethod yX3_keep, Cond.selects RX3 yX3_keep yX3_keep, Cond.code yX3_keep cX3_keep 1 (some .int), Cond.methodLink RL 133 yX4_keep, Cond.instanceMethod yX4_keep, Cond.selects RX4 yX4_keep yX4_keep, Cond.code yX4_keep cX4_keep 2 (some .int), Cond.fieldLink RX4 47 "LateDovesModel" "isKept" "Z", Cond.methodLink RL 134 yL_restore, Cond.static yL_restore, Cond.codeWith yL_restore cL_restore 3 (some .int) [(0, 8, 11, 17)], Cond.methodLink RL 51 yX3_restore]
def wsL_law0_r25 : List Cond := [Cond.instanceMethod yX3_restore, Cond.selects RX3 yX3_restore yX3_restore, Cond.code yX3_restore cX3_restore 1 (some .int), Cond.methodLink RL 136 yX4_restore, Cond.instanceMethod yX4_restore, Cond.selects RX4 yX4_restore yX4_restore, Cond.code yX4_restore cX4_restore 2 (some .int), Cond.methodLink RL 137 yL_dove, Cond.static yL_dove, Cond.codeWith yL_dove cL_dove 5 (some .int) [(0, 10, 13, 13), (0, 10, 17, 15)], Cond.methodLink RL 54 yX3_dove, Cond.instanceMethod yX3_dove, Cond.selects RX3 yX3_dove yX3_dove, Cond.code yX3_dove cX3_dove 3 (some .int), Cond.methodLink RL 139 yX4_dove, Cond.instanceMethod yX4_dove, Cond.selects RX4 yX4_dove yX4_dove, Cond.code yX4_dove cX4_dove 3 (some .int), Cond.methodLink RX4 153 yX4_doveNow, Cond.instanceMethod yX4_doveNow, Cond.selects RX4 yX4_doveNow yX4_doveNow, Cond.code yX4_doveNow cX4_doveNow 3 (some .int), Cond.methodLink RL 140 yL_hole, Cond.static yL_hole]
def wsL_law0_r26 : List Cond := [Cond.codeWith yL_hole cL_hole 5 (some .int) [(0, 10, 13, 13), (0, 10, 17, 15)], Cond.methodLink RL 57 yX3_hole, Cond.instanceMethod yX3_hole, Cond.selects RX3 yX3_hole yX3_hole, Cond.code yX3_hole cX3_hole 3 (some .int), Cond.methodLink RL 142 yX4_hole, Cond.instanceMethod yX4_hole, Cond.selects RX4 yX4_hole yX4_hole, Cond.code yX4_hole cX4_hole 3 (some .int), Cond.methodLink RX4 156 yX4_holeNow, Cond.instanceMethod yX4_holeNow, Cond.selects RX4 yX4_holeNow yX4_holeNow, Cond.code yX4_holeNow cX4_holeNow 3 (some .int), Cond.methodLink RL 143 yL_count, Cond.static yL_count, Cond.codeWith yL_count cL_count 4 (some .int) [(0, 9, 12, 15)], Cond.methodLink RL 60 yX3_count, Cond.instanceMethod yX3_count, Cond.selects RX3 yX3_count yX3_count, Cond.code yX3_count cX3_count 2 (some .int), Cond.methodLink RX3 181 yX0_numberOf, Cond.instanceMethod yX0_numberOf, Cond.selects RX0 yX0_numberOf yX0_numberOf, Cond.code yX0_numberOf cX0_numberOf 2 (some .int)]
def wsL_law0_r27 : List Cond := [Cond.methodLink RX0 70 yX0_sittingByDoves, Cond.instanceMethod yX0_sittingByDoves, Cond.selects RX0 yX0_sittingByDoves yX0_sittingByDoves, Cond.code yX0_sittingByDoves cX0_sittingByDoves 1 (some .int), Cond.methodLink RX0 76 yX0_placedAt, Cond.instanceMethod yX0_placedAt, Cond.selects RX0 yX0_placedAt yX0_placedAt, Cond.code yX0_placedAt cX0_placedAt 4 (some .int), Cond.methodLink RX0 73 yX0_sittingByHoles, Cond.instanceMethod yX0_sittingByHoles, Cond.selects RX0 yX0_sittingByHoles yX0_sittingByHoles, Cond.code yX0_sittingByHoles cX0_sittingByHoles 3 (some .int), Cond.methodLink RX0 80 yX0_openHoles, Cond.methodLink RX0 83 yX0_pairs, Cond.methodLink RL 145 yX4_count, Cond.instanceMethod yX4_count, Cond.selects RX4 yX4_count yX4_count, Cond.code yX4_count cX4_count 2 (some .int), Cond.methodLink RX4 159 yX4_countNow, Cond.instanceMethod yX4_countNow, Cond.selects RX4 yX4_countNow yX4_countNow, Cond.code yX4_countNow cX4_countNow 2 (some .int), Cond.methodLink RL 146 yL_step, Cond.static yL_step]
def wsL_law0_r28 : List Cond := [Cond.codeWith yL_step cL_step 5 (some .int) [(0, 10, 13, 15)], Cond.methodLink RL 63 yX3_step, Cond.instanceMethod yX3_step, Cond.selects RX3 yX3_step yX3_step, Cond.code yX3_step cX3_step 3 (some .int), Cond.methodLink RL 148 yX4_step, Cond.instanceMethod yX4_step, Cond.selects RX4 yX4_step yX4_step, Cond.code yX4_step cX4_step 3 (some .int), Cond.methodLink RL 149 yL_whyNot, Cond.static yL_whyNot, Cond.codeWith yL_whyNot cL_whyNot 5 (some .int) [(0, 10, 13, 13), (0, 10, 17, 15)], Cond.methodLink RL 66 yX3_whyNot, Cond.instanceMethod yX3_whyNot, Cond.selects RX3 yX3_whyNot yX3_whyNot, Cond.code yX3_whyNot cX3_whyNot 3 (some .int), Cond.methodLink RL 151 yX4_whyNot, Cond.instanceMethod yX4_whyNot, Cond.selects RX4 yX4_whyNot yX4_whyNot, Cond.code yX4_whyNot cX4_whyNot 3 (some .int), Cond.methodLink RL 152 yL_ifHome, Cond.static yL_ifHome, Cond.codeWith yL_ifHome cL_ifHome 6 (some .int) [(0, 12, 15, 13), (0, 12, 19, 15)], Cond.methodLink RL 69 yX3_ifHome]
def wsL_law0_r29 : List Cond := [Cond.instanceMethod yX3_ifHome, Cond.selects RX3 yX3_ifHome yX3_ifHome, Cond.code yX3_ifHome cX3_ifHome 4 (some .int), Cond.methodLink RX3 201 yX3_tryHome, Cond.instanceMethod yX3_tryHome, Cond.selects RX3 yX3_tryHome yX3_tryHome, Cond.code yX3_tryHome cX3_tryHome 3 (some .boolean), Cond.methodLink RX3 205 yX3_trialNumber, Cond.instanceMethod yX3_trialNumber, Cond.selects RX3 yX3_trialNumber yX3_trialNumber, Cond.code yX3_trialNumber cX3_trialNumber 3 (some .int), Cond.methodLink RX3 296 yX0_placedAt, Cond.methodLink RL 155 yX4_ifHome, Cond.instanceMethod yX4_ifHome, Cond.selects RX4 yX4_ifHome yX4_ifHome, Cond.code yX4_ifHome cX4_ifHome 4 (some .int), Cond.methodLink RX4 168 yX4_homeIf, Cond.instanceMethod yX4_homeIf, Cond.selects RX4 yX4_homeIf yX4_homeIf, Cond.code yX4_homeIf cX4_homeIf 7 (some .int), Cond.methodLink RX4 162 yX4_putAside, Cond.instanceMethod yX4_putAside, Cond.selects RX4 yX4_putAside yX4_putAside, Cond.code yX4_putAside cX4_putAside 2 none]
def wsL_law0_r30 : List Cond := [Cond.methodLink RX4 165 yX4_putBack, Cond.instanceMethod yX4_putBack, Cond.selects RX4 yX4_putBack yX4_putBack, Cond.code yX4_putBack cX4_putBack 2 none, Cond.methodLink RL 156 yX3_freeHole, Cond.instanceMethod yX3_freeHole, Cond.selects RX3 yX3_freeHole yX3_freeHole, Cond.code yX3_freeHole cX3_freeHole 2 (some .int), Cond.methodLink RX3 208 yX0_isOpen, Cond.methodLink RL 159 yX4_freeHole, Cond.instanceMethod yX4_freeHole, Cond.selects RX4 yX4_freeHole yX4_freeHole, Cond.code yX4_freeHole cX4_freeHole 1 (some .int), Cond.methodLink RX4 171 yX4_findHole, Cond.instanceMethod yX4_findHole, Cond.selects RX4 yX4_findHole yX4_findHole, Cond.code yX4_findHole cX4_findHole 3 (some .int), Cond.methodLink RL 160 yX3_lateIsAsGood, Cond.instanceMethod yX3_lateIsAsGood, Cond.selects RX3 yX3_lateIsAsGood yX3_lateIsAsGood, Cond.code yX3_lateIsAsGood cX3_lateIsAsGood 1 (some .int), Cond.methodLink RX3 211 yX3_sittingIfAllCame, Cond.instanceMethod yX3_sittingIfAllCame, Cond.selects RX3 yX3_sittingIfAllCame yX3_sittingIfAllCame]
def wsL_law0_r31 : List Cond := [Cond.code yX3_sittingIfAllCame cX3_sittingIfAllCame 3 (some .int), Cond.methodLink RX3 299 yX0_sittingByDoves, Cond.methodLink RL 163 yX4_lateIsAsGood, Cond.instanceMethod yX4_lateIsAsGood, Cond.selects RX4 yX4_lateIsAsGood yX4_lateIsAsGood, Cond.code yX4_lateIsAsGood cX4_lateIsAsGood 1 (some .int), Cond.methodLink RX4 177 yX4_asGood, Cond.instanceMethod yX4_asGood, Cond.selects RX4 yX4_asGood yX4_asGood, Cond.code yX4_asGood cX4_asGood 1 (some .int), Cond.methodLink RX4 174 yX4_inHolesIf, Cond.instanceMethod yX4_inHolesIf, Cond.selects RX4 yX4_inHolesIf yX4_inHolesIf, Cond.code yX4_inHolesIf cX4_inHolesIf 3 (some .int), Cond.methodLink RL 164 yX3_homeShare, Cond.instanceMethod yX3_homeShare, Cond.selects RX3 yX3_homeShare yX3_homeShare, Cond.code yX3_homeShare cX3_homeShare 2 (some .double), Cond.methodLink RX3 217 yX0_doveCount, Cond.methodLink RX3 220 yX0_inOwnHoles, Cond.instanceMethod yX0_inOwnHoles, Cond.selects RX0 yX0_inOwnHoles yX0_inOwnHoles, Cond.code yX0_inOwnHoles cX0_inOwnHoles 3 (some .int), Cond.methodLink RL 168 yX4_homeShare]
def wsL_law0_r32 : List Cond := [Cond.instanceMethod yX4_homeShare, Cond.selects RX4 yX4_homeShare yX4_homeShare, Cond.code yX4_homeShare cX4_homeShare 1 (some .double), Cond.methodLink RX4 180 yX4_share, Cond.instanceMethod yX4_share, Cond.selects RX4 yX4_share yX4_share, Cond.code yX4_share cX4_share 3 (some .double), Cond.methodLink RL 169 yX3_digest, Cond.instanceMethod yX3_digest, Cond.selects RX3 yX3_digest yX3_digest, Cond.code yX3_digest cX3_digest 5 (some .long), Cond.constantLong RX3 223 (3889), Cond.methodLink RX3 225 yX3_count, Cond.methodLink RX3 228 yX3_mix, Cond.static yX3_mix, Cond.code yX3_mix cX3_mix 4 (some .long), Cond.constantLong RX3 302 (31), Cond.methodLink RX3 235 yX3_mixDove, Cond.instanceMethod yX3_mixDove, Cond.selects RX3 yX3_mixDove yX3_mixDove, Cond.code yX3_mixDove cX3_mixDove 8 (some .long), Cond.constantLong RX3 304 (-1), Cond.methodLink RX3 239 yX3_mixWay, Cond.instanceMethod yX3_mixWay]
def wsL_law0_r33 : List Cond := [Cond.selects RX3 yX3_mixWay yX3_mixWay, Cond.code yX3_mixWay cX3_mixWay 6 (some .long), Cond.methodLink RX3 243 yX3_freeHole, Cond.methodLink RX3 246 yX3_lateIsAsGood, Cond.methodLink RX3 249 yX3_homeShare, Cond.methodLink RX3 253 yX3_bitsOfShare, Cond.static yX3_bitsOfShare, Cond.code yX3_bitsOfShare cX3_bitsOfShare 8 (some .long), Cond.constantLong RX3 306 (1023), Cond.constantDouble RX3 308 (4611686018427387904), Cond.constantDouble RX3 310 (4841369599423283200), Cond.methodLink RL 173 yX4_digest, Cond.instanceMethod yX4_digest, Cond.selects RX4 yX4_digest yX4_digest, Cond.code yX4_digest cX4_digest 5 (some .long), Cond.constantLong RX4 184 (3889), Cond.constantLong RX4 186 (31), Cond.methodLink RX4 188 yJxe99ae_doubleToLongBits_ccdee, Cond.static yJxe99ae_doubleToLongBits_ccdee, Cond.initialized RJxe99ae, Cond.code yJxe99ae_doubleToLongBits_ccdee cJxe99ae_doubleToLongBits_ccdee 2 (some .long), Cond.methodLink RJxe99ae 134 ⟨"java/lang/Double", "doubleToRawLongBits", "(D)J"⟩, Cond.native ⟨"java/lang/Double", "doubleToRawLongBits", "(D)J"⟩, Cond.static ⟨"java/lang/Double", "doubleToRawLongBits", "(D)J"⟩]
def wsL_law0_r34 : List Cond := [Cond.initialized "java/lang/Double", Cond.constantLong RJxe99ae 137 (9221120237041090560), Cond.methodLink RJxe99ae 122 yJxe99ae_isNaN_b9ae7, Cond.static yJxe99ae_isNaN_b9ae7, Cond.code yJxe99ae_isNaN_b9ae7 cJxe99ae_isNaN_b9ae7 2 (some .boolean)]
def wsL_law0 : List Cond := (wsL_law0_r1 ++ (wsL_law0_r2 ++ (wsL_law0_r3 ++ (wsL_law0_r4 ++ (wsL_law0_r5 ++ (wsL_law0_r6 ++ (wsL_law0_r7 ++ (wsL_law0_r8 ++ (wsL_law0_r9 ++ (wsL_law0_r10 ++ (wsL_law0_r11 ++ (wsL_law0_r12 ++ (wsL_law0_r13 ++ (wsL_law0_r14 ++ (wsL_law0_r15 ++ (wsL_law0_r16 ++ (wsL_law0_r17 ++ (wsL_law0_r18 ++ (wsL_law0_r19 ++ (wsL_law0_r20 ++ (wsL_law0_r21 ++ (wsL_law0_r22 ++ (wsL_law0_r23 ++ (wsL_law0_r24 ++ (wsL_law0_r25 ++ (wsL_law0_r26 ++ (wsL_law0_r27 ++ (wsL_law0_r28 ++ (wsL_law0_r29 ++ (wsL_law0_r30 ++ (wsL_law0_r31 ++ (wsL_law0_r32 ++ (wsL_law0_r33 ++ wsL_law0_r34))))))))))))))))))))))))))))))))) ++ wsX30 ++ wsX40 ++ wsX00 ++ wsX10 ++ wsX20 ++ ([] : List Cond)
def wsL_law : List Cond := wsL_law0 ++ (vx_atS RX3 56 "java/lang/IllegalArgumentException" ["java/lang/RuntimeException", "java/lang/Exception"]).filter goodWord ++ (vx_atS RX3 67 "java/lang/IllegalStateException" ["java/lang/RuntimeException", "java/lang/Exception"]).filter goodWord ++ (vx_atS RX3 109 "java/lang/IndexOutOfBoundsException" ["java/lang/RuntimeException", "java/lang/Exception"]).filter goodWord
abbrev vwCl : List vw_C := [(RX0, TX0, 10), (RX1, TX1, 4), (RX2, TX2, 3), (RX3, TX3, 9), (RX4, TX4, 12)]
end
section
set_option maxRecDepth 20000 in
theorem ggX0_init_X2_init : GoodIn wsX0_init wsX2_init := goodIn_r _ [17, 18, 2, 3, 5, 19, 20, 21, 32, 33, 34] (by decide +kernel) (by decide +kernel)
set_option maxRecDepth 20000 in
theorem gX0_init_X2_init : GoodIn wsX0_init (wsX2_init) := ggX0_init_X2_init
theorem dX0_init_0 : decode cX0_init 0 = .ok (.aload_n 0, 1) := by decide +kernel
theorem dX0_init_1 : decode cX0_init 1 = .ok (.invokespecial 3, 3) := by decide +kernel
theorem dX0_init_4 : decode cX0_init 4 = .ok (.aload_n 0, 1) := by decide +kernel
theorem dX0_init_5 : decode cX0_init 5 = .ok (.bipush 8, 2) := by decide +kernel
theorem dX0_init_7 : decode cX0_init 7 = .ok (.bipush 16, 2) := by decide +kernel
theorem dX0_init_9 : decode cX0_init 9 = .ok (.multianewarray 9 2, 4) := by decide +kernel
theorem dX0_init_13 : decode cX0_init 13 = .ok (.putfield 11, 3) := by decide +kernel
theorem dX0_init_16 : decode cX0_init 16 = .ok (.iconst 0, 1) := by decide +kernel
theorem dX0_init_17 : decode cX0_init 17 = .ok (.istore_n 1, 1) := by decide +kernel
theorem dX0_init_18 : decode cX0_init 18 = .ok (.iload_n 1, 1) := by decide +kernel
theorem dX0_init_19 : decode cX0_init 19 = .ok (.bipush 16, 2) := by decide +kernel
theorem dX0_init_21 : decode cX0_init 21 = .ok (.if_icmp .ge 36, 3) := by decide +kernel
theorem dX0_init_24 : decode cX0_init 24 = .ok (.aload_n 0, 1) := by decide +kernel
theorem dX0_init_25 : decode cX0_init 25 = .ok (.getfield 11, 3) := by decide +kernel
theorem dX0_init_28 : decode cX0_init 28 = .ok (.iconst 0, 1) := by decide +kernel
theorem dX0_init_29 : decode cX0_init 29 = .ok (.aaload, 1) := by decide +kernel
theorem dX0_init_30 : decode cX0_init 30 = .ok (.iload_n 1, 1) := by decide +kernel
theorem dX0_init_31 : decode cX0_init 31 = .ok (.iconst (-1), 1) := by decide +kernel
theorem dX0_init_32 : decode cX0_init 32 = .ok (.iastore, 1) := by decide +kernel
theorem dX0_init_33 : decode cX0_init 33 = .ok (.aload_n 0, 1) := by decide +kernel
theorem dX0_init_34 : decode cX0_init 34 = .ok (.getfield 11, 3) := by decide +kernel
theorem dX0_init_37 : decode cX0_init 37 = .ok (.iconst 2, 1) := by decide +kernel
theorem dX0_init_38 : decode cX0_init 38 = .ok (.aaload, 1) := by decide +kernel
theorem dX0_init_39 : decode cX0_init 39 = .ok (.iload_n 1, 1) := by decide +kernel
theorem dX0_init_40 : decode cX0_init 40 = .ok (.iconst (-1), 1) := by decide +kernel
theorem dX0_init_41 : decode cX0_init 41 = .ok (.iastore, 1) := by decide +kernel
theorem dX0_init_42 : decode cX0_init 42 = .ok (.aload_n 0, 1) := by decide +kernel
theorem dX0_init_43 : decode cX0_init 43 = .ok (.getfield 11, 3) := by decide +kernel
theorem dX0_init_46 : decode cX0_init 46 = .ok (.iconst 3, 1) := by decide +kernel
theorem dX0_init_47 : decode cX0_init 47 = .ok (.aaload, 1) := by decide +kernel
theorem dX0_init_48 : decode cX0_init 48 = .ok (.iload_n 1, 1) := by decide +kernel
theorem dX0_init_49 : decode cX0_init 49 = .ok (.iconst (-1), 1) := by decide +kernel
theorem dX0_init_50 : decode cX0_init 50 = .ok (.iastore, 1) := by decide +kernel
theorem dX0_init_51 : decode cX0_init 51 = .ok (.iinc 1 1, 3) := by decide +kernel
theorem dX0_init_54 : decode cX0_init 54 = .ok (.goto (-36), 3) := by decide +kernel
theorem dX0_init_57 : decode cX0_init 57 = .ok (.aload_n 0, 1) := by decide +kernel
theorem dX0_init_58 : decode cX0_init 58 = .ok (.iconst 3, 1) := by decide +kernel
theorem dX0_init_59 : decode cX0_init 59 = .ok (.bipush 24, 2) := by decide +kernel
theorem dX0_init_61 : decode cX0_init 61 = .ok (.multianewarray 9 2, 4) := by decide +kernel
theorem dX0_init_65 : decode cX0_init 65 = .ok (.putfield 16, 3) := by decide +kernel
theorem dX0_init_68 : decode cX0_init 68 = .ok (.iconst 0, 1) := by decide +kernel
theorem dX0_init_69 : decode cX0_init 69 = .ok (.istore_n 1, 1) := by decide +kernel
theorem dX0_init_70 : decode cX0_init 70 = .ok (.iload_n 1, 1) := by decide +kernel
theorem dX0_init_71 : decode cX0_init 71 = .ok (.bipush 24, 2) := by decide +kernel
theorem dX0_init_73 : decode cX0_init 73 = .ok (.if_icmp .ge 36, 3) := by decide +kernel
theorem dX0_init_76 : decode cX0_init 76 = .ok (.aload_n 0, 1) := by decide +kernel
theorem dX0_init_77 : decode cX0_init 77 = .ok (.getfield 16, 3) := by decide +kernel
theorem dX0_init_80 : decode cX0_init 80 = .ok (.iconst 0, 1) := by decide +kernel
theorem dX0_init_81 : decode cX0_init 81 = .ok (.aaload, 1) := by decide +kernel
theorem dX0_init_82 : decode cX0_init 82 = .ok (.iload_n 1, 1) := by decide +kernel
theorem dX0_init_83 : decode cX0_init 83 = .ok (.iconst (-1), 1) := by decide +kernel
theorem dX0_init_84 : decode cX0_init 84 = .ok (.iastore, 1) := by decide +kernel
theorem dX0_init_85 : decode cX0_init 85 = .ok (.aload_n 0, 1) := by decide +kernel
theorem dX0_init_86 : decode cX0_init 86 = .ok (.getfield 16, 3) := by decide +kernel
theorem dX0_init_89 : decode cX0_init 89 = .ok (.iconst 1, 1) := by decide +kernel
theorem dX0_init_90 : decode cX0_init 90 = .ok (.aaload, 1) := by decide +kernel
theorem dX0_init_91 : decode cX0_init 91 = .ok (.iload_n 1, 1) := by decide +kernel
theorem dX0_init_92 : decode cX0_init 92 = .ok (.iconst (-1), 1) := by decide +kernel
theorem dX0_init_93 : decode cX0_init 93 = .ok (.iastore, 1) := by decide +kernel
theorem dX0_init_94 : decode cX0_init 94 = .ok (.aload_n 0, 1) := by decide +kernel
theorem dX0_init_95 : decode cX0_init 95 = .ok (.getfield 16, 3) := by decide +kernel
theorem dX0_init_98 : decode cX0_init 98 = .ok (.iconst 2, 1) := by decide +kernel
theorem dX0_init_99 : decode cX0_init 99 = .ok (.aaload, 1) := by decide +kernel
theorem dX0_init_100 : decode cX0_init 100 = .ok (.iload_n 1, 1) := by decide +kernel
theorem dX0_init_101 : decode cX0_init 101 = .ok (.iconst 1, 1) := by decide +kernel
theorem dX0_init_102 : decode cX0_init 102 = .ok (.iastore, 1) := by decide +kernel
theorem dX0_init_103 : decode cX0_init 103 = .ok (.iinc 1 1, 3) := by decide +kernel
theorem dX0_init_106 : decode cX0_init 106 = .ok (.goto (-36), 3) := by decide +kernel
theorem dX0_init_109 : decode cX0_init 109 = .ok (.aload_n 0, 1) := by decide +kernel
theorem dX0_init_110 : decode cX0_init 110 = .ok (.iconst 2, 1) := by decide +kernel
theorem dX0_init_111 : decode cX0_init 111 = .ok (.newarray .int, 2) := by decide +kernel
theorem dX0_init_113 : decode cX0_init 113 = .ok (.putfield 19, 3) := by decide +kernel
theorem dX0_init_116 : decode cX0_init 116 = .ok (.aload_n 0, 1) := by decide +kernel
theorem dX0_init_117 : decode cX0_init 117 = .ok (.getfield 19, 3) := by decide +kernel
theorem dX0_init_120 : decode cX0_init 120 = .ok (.iconst 0, 1) := by decide +kernel
theorem dX0_init_121 : decode cX0_init 121 = .ok (.sipush 1080, 3) := by decide +kernel
theorem dX0_init_124 : decode cX0_init 124 = .ok (.iastore, 1) := by decide +kernel
theorem dX0_init_125 : decode cX0_init 125 = .ok (.aload_n 0, 1) := by decide +kernel
theorem dX0_init_126 : decode cX0_init 126 = .ok (.getfield 19, 3) := by decide +kernel
theorem dX0_init_129 : decode cX0_init 129 = .ok (.iconst 1, 1) := by decide +kernel
theorem dX0_init_130 : decode cX0_init 130 = .ok (.bipush 6, 2) := by decide +kernel
theorem dX0_init_132 : decode cX0_init 132 = .ok (.iastore, 1) := by decide +kernel
theorem dX0_init_133 : decode cX0_init 133 = .ok (.aload_n 0, 1) := by decide +kernel
theorem dX0_init_134 : decode cX0_init 134 = .ok (.iconst 4, 1) := by decide +kernel
theorem dX0_init_135 : decode cX0_init 135 = .ok (.newarray .int, 2) := by decide +kernel
theorem dX0_init_137 : decode cX0_init 137 = .ok (.putfield 23, 3) := by decide +kernel
theorem dX0_init_140 : decode cX0_init 140 = .ok (.aload_n 0, 1) := by decide +kernel
theorem dX0_init_141 : decode cX0_init 141 = .ok (.iconst 2, 1) := by decide +kernel
theorem dX0_init_142 : decode cX0_init 142 = .ok (.newarray .int, 2) := by decide +kernel
theorem dX0_init_144 : decode cX0_init 144 = .ok (.putfield 26, 3) := by decide +kernel
theorem dX0_init_147 : decode cX0_init 147 = .ok (.aload_n 0, 1) := by decide +kernel
theorem dX0_init_148 : decode cX0_init 148 = .ok (.getfield 26, 3) := by decide +kernel
theorem dX0_init_151 : decode cX0_init 151 = .ok (.iconst 0, 1) := by decide +kernel
theorem dX0_init_152 : decode cX0_init 152 = .ok (.iconst (-1), 1) := by decide +kernel
theorem dX0_init_153 : decode cX0_init 153 = .ok (.iastore, 1) := by decide +kernel
theorem dX0_init_154 : decode cX0_init 154 = .ok (.aload_n 0, 1) := by decide +kernel
theorem dX0_init_155 : decode cX0_init 155 = .ok (.getfield 26, 3) := by decide +kernel
theorem dX0_init_158 : decode cX0_init 158 = .ok (.iconst 1, 1) := by decide +kernel
theorem dX0_init_159 : decode cX0_init 159 = .ok (.iconst (-1), 1) := by decide +kernel
theorem dX0_init_160 : decode cX0_init 160 = .ok (.iastore, 1) := by decide +kernel
theorem dX0_init_161 : decode cX0_init 161 = .ok (.aload_n 0, 1) := by decide +kernel
theorem dX0_init_162 : decode cX0_init 162 = .ok (.new 29, 3) := by decide +kernel
theorem dX0_init_165 : decode cX0_init 165 = .ok (.dup, 1) := by decide +kernel
theorem dX0_init_166 : decode cX0_init 166 = .ok (.invokespecial 31, 3) := by decide +kernel
theorem dX0_init_169 : decode cX0_init 169 = .ok (.putfield 32, 3) := by decide +kernel
theorem dX0_init_172 : decode cX0_init 172 = .ok (.return_, 1) := by decide +kernel
set_option maxRecDepth 20000 in
theorem ggX0_copyFrom_X2_copyFrom : GoodIn wsX0_copyFrom wsX2_copyFrom := goodIn_r _ [19, 20, 21, 3, 4, 5, 22, 23, 34, 35, 36] (by decide +kernel) (by decide +kernel)
set_option maxRecDepth 20000 in
theorem gX0_copyFrom_X2_copyFrom : GoodIn wsX0_copyFrom (wsV RX0 42 RX2 yX2_copyFrom wsX2_copyFrom) := goodIn_app (goodIn_of _ (by decide +kernel)) ggX0_copyFrom_X2_copyFrom
theorem dX0_copyFrom_0 : decode cX0_copyFrom 0 = .ok (.iconst 0, 1) := by decide +kernel
theorem dX0_copyFrom_1 : decode cX0_copyFrom 1 = .ok (.istore_n 2, 1) := by decide +kernel
theorem dX0_copyFrom_2 : decode cX0_copyFrom 2 = .ok (.iload_n 2, 1) := by decide +kernel
theorem dX0_copyFrom_3 : decode cX0_copyFrom 3 = .ok (.bipush 8, 2) := by decide +kernel
theorem dX0_copyFrom_5 : decode cX0_copyFrom 5 = .ok (.if_icmp .ge 28, 3) := by decide +kernel
theorem dX0_copyFrom_8 : decode cX0_copyFrom 8 = .ok (.aload_n 1, 1) := by decide +kernel
theorem dX0_copyFrom_9 : decode cX0_copyFrom 9 = .ok (.getfield 11, 3) := by decide +kernel
theorem dX0_copyFrom_12 : decode cX0_copyFrom 12 = .ok (.iload_n 2, 1) := by decide +kernel
theorem dX0_copyFrom_13 : decode cX0_copyFrom 13 = .ok (.aaload, 1) := by decide +kernel
theorem dX0_copyFrom_14 : decode cX0_copyFrom 14 = .ok (.iconst 0, 1) := by decide +kernel
theorem dX0_copyFrom_15 : decode cX0_copyFrom 15 = .ok (.aload_n 0, 1) := by decide +kernel
theorem dX0_copyFrom_16 : decode cX0_copyFrom 16 = .ok (.getfield 11, 3) := by decide +kernel
theorem dX0_copyFrom_19 : decode cX0_copyFrom 19 = .ok (.iload_n 2, 1) := by decide +kernel
theorem dX0_copyFrom_20 : decode cX0_copyFrom 20 = .ok (.aaload, 1) := by decide +kernel
theorem dX0_copyFrom_21 : decode cX0_copyFrom 21 = .ok (.iconst 0, 1) := by decide +kernel
theorem dX0_copyFrom_22 : decode cX0_copyFrom 22 = .ok (.bipush 16, 2) := by decide +kernel
theorem dX0_copyFrom_24 : decode cX0_copyFrom 24 = .ok (.invokestatic 36, 3) := by decide +kernel
theorem dX0_copyFrom_27 : decode cX0_copyFrom 27 = .ok (.iinc 2 1, 3) := by decide +kernel
theorem dX0_copyFrom_30 : decode cX0_copyFrom 30 = .ok (.goto (-28), 3) := by decide +kernel
theorem dX0_copyFrom_33 : decode cX0_copyFrom 33 = .ok (.iconst 0, 1) := by decide +kernel
theorem dX0_copyFrom_34 : decode cX0_copyFrom 34 = .ok (.istore_n 2, 1) := by decide +kernel
theorem dX0_copyFrom_35 : decode cX0_copyFrom 35 = .ok (.iload_n 2, 1) := by decide +kernel
theorem dX0_copyFrom_36 : decode cX0_copyFrom 36 = .ok (.iconst 3, 1) := by decide +kernel
theorem dX0_copyFrom_37 : decode cX0_copyFrom 37 = .ok (.if_icmp .ge 28, 3) := by decide +kernel
theorem dX0_copyFrom_40 : decode cX0_copyFrom 40 = .ok (.aload_n 1, 1) := by decide +kernel
theorem dX0_copyFrom_41 : decode cX0_copyFrom 41 = .ok (.getfield 16, 3) := by decide +kernel
theorem dX0_copyFrom_44 : decode cX0_copyFrom 44 = .ok (.iload_n 2, 1) := by decide +kernel
theorem dX0_copyFrom_45 : decode cX0_copyFrom 45 = .ok (.aaload, 1) := by decide +kernel
theorem dX0_copyFrom_46 : decode cX0_copyFrom 46 = .ok (.iconst 0, 1) := by decide +kernel
theorem dX0_copyFrom_47 : decode cX0_copyFrom 47 = .ok (.aload_n 0, 1) := by decide +kernel
theorem dX0_copyFrom_48 : decode cX0_copyFrom 48 = .ok (.getfield 16, 3) := by decide +kernel
theorem dX0_copyFrom_51 : decode cX0_copyFrom 51 = .ok (.iload_n 2, 1) := by decide +kernel
theorem dX0_copyFrom_52 : decode cX0_copyFrom 52 = .ok (.aaload, 1) := by decide +kernel
theorem dX0_copyFrom_53 : decode cX0_copyFrom 53 = .ok (.iconst 0, 1) := by decide +kernel
theorem dX0_copyFrom_54 : decode cX0_copyFrom 54 = .ok (.bipush 24, 2) := by decide +kernel
theorem dX0_copyFrom_56 : decode cX0_copyFrom 56 = .ok (.invokestatic 36, 3) := by decide +kernel
theorem dX0_copyFrom_59 : decode cX0_copyFrom 59 = .ok (.iinc 2 1, 3) := by decide +kernel
theorem dX0_copyFrom_62 : decode cX0_copyFrom 62 = .ok (.goto (-27), 3) := by decide +kernel
theorem dX0_copyFrom_65 : decode cX0_copyFrom 65 = .ok (.aload_n 1, 1) := by decide +kernel
theorem dX0_copyFrom_66 : decode cX0_copyFrom 66 = .ok (.getfield 19, 3) := by decide +kernel
theorem dX0_copyFrom_69 : decode cX0_copyFrom 69 = .ok (.iconst 0, 1) := by decide +kernel
theorem dX0_copyFrom_70 : decode cX0_copyFrom 70 = .ok (.aload_n 0, 1) := by decide +kernel
theorem dX0_copyFrom_71 : decode cX0_copyFrom 71 = .ok (.getfield 19, 3) := by decide +kernel
theorem dX0_copyFrom_74 : decode cX0_copyFrom 74 = .ok (.iconst 0, 1) := by decide +kernel
theorem dX0_copyFrom_75 : decode cX0_copyFrom 75 = .ok (.iconst 2, 1) := by decide +kernel
theorem dX0_copyFrom_76 : decode cX0_copyFrom 76 = .ok (.invokestatic 36, 3) := by decide +kernel
theorem dX0_copyFrom_79 : decode cX0_copyFrom 79 = .ok (.aload_n 1, 1) := by decide +kernel
theorem dX0_copyFrom_80 : decode cX0_copyFrom 80 = .ok (.getfield 23, 3) := by decide +kernel
theorem dX0_copyFrom_83 : decode cX0_copyFrom 83 = .ok (.iconst 0, 1) := by decide +kernel
theorem dX0_copyFrom_84 : decode cX0_copyFrom 84 = .ok (.aload_n 0, 1) := by decide +kernel
theorem dX0_copyFrom_85 : decode cX0_copyFrom 85 = .ok (.getfield 23, 3) := by decide +kernel
theorem dX0_copyFrom_88 : decode cX0_copyFrom 88 = .ok (.iconst 0, 1) := by decide +kernel
theorem dX0_copyFrom_89 : decode cX0_copyFrom 89 = .ok (.iconst 4, 1) := by decide +kernel
theorem dX0_copyFrom_90 : decode cX0_copyFrom 90 = .ok (.invokestatic 36, 3) := by decide +kernel
theorem dX0_copyFrom_93 : decode cX0_copyFrom 93 = .ok (.aload_n 1, 1) := by decide +kernel
theorem dX0_copyFrom_94 : decode cX0_copyFrom 94 = .ok (.getfield 26, 3) := by decide +kernel
theorem dX0_copyFrom_97 : decode cX0_copyFrom 97 = .ok (.iconst 0, 1) := by decide +kernel
theorem dX0_copyFrom_98 : decode cX0_copyFrom 98 = .ok (.aload_n 0, 1) := by decide +kernel
theorem dX0_copyFrom_99 : decode cX0_copyFrom 99 = .ok (.getfield 26, 3) := by decide +kernel
theorem dX0_copyFrom_102 : decode cX0_copyFrom 102 = .ok (.iconst 0, 1) := by decide +kernel
theorem dX0_copyFrom_103 : decode cX0_copyFrom 103 = .ok (.iconst 2, 1) := by decide +kernel
theorem dX0_copyFrom_104 : decode cX0_copyFrom 104 = .ok (.invokestatic 36, 3) := by decide +kernel
theorem dX0_copyFrom_107 : decode cX0_copyFrom 107 = .ok (.aload_n 0, 1) := by decide +kernel
theorem dX0_copyFrom_108 : decode cX0_copyFrom 108 = .ok (.getfield 32, 3) := by decide +kernel
theorem dX0_copyFrom_111 : decode cX0_copyFrom 111 = .ok (.aload_n 1, 1) := by decide +kernel
theorem dX0_copyFrom_112 : decode cX0_copyFrom 112 = .ok (.getfield 32, 3) := by decide +kernel
theorem dX0_copyFrom_115 : decode cX0_copyFrom 115 = .ok (.invokevirtual 42, 3) := by decide +kernel
theorem dX0_copyFrom_118 : decode cX0_copyFrom 118 = .ok (.aload_n 0, 1) := by decide +kernel
theorem dX0_copyFrom_119 : decode cX0_copyFrom 119 = .ok (.aload_n 1, 1) := by decide +kernel
theorem dX0_copyFrom_120 : decode cX0_copyFrom 120 = .ok (.getfield 46, 3) := by decide +kernel
theorem dX0_copyFrom_123 : decode cX0_copyFrom 123 = .ok (.putfield 46, 3) := by decide +kernel
theorem dX0_copyFrom_126 : decode cX0_copyFrom 126 = .ok (.aload_n 0, 1) := by decide +kernel
theorem dX0_copyFrom_127 : decode cX0_copyFrom 127 = .ok (.aload_n 1, 1) := by decide +kernel
theorem dX0_copyFrom_128 : decode cX0_copyFrom 128 = .ok (.getfield 50, 3) := by decide +kernel
theorem dX0_copyFrom_131 : decode cX0_copyFrom 131 = .ok (.putfield 50, 3) := by decide +kernel
theorem dX0_copyFrom_134 : decode cX0_copyFrom 134 = .ok (.aload_n 0, 1) := by decide +kernel
theorem dX0_copyFrom_135 : decode cX0_copyFrom 135 = .ok (.aload_n 1, 1) := by decide +kernel
theorem dX0_copyFrom_136 : decode cX0_copyFrom 136 = .ok (.getfield 53, 3) := by decide +kernel
theorem dX0_copyFrom_139 : decode cX0_copyFrom 139 = .ok (.putfield 53, 3) := by decide +kernel
theorem dX0_copyFrom_142 : decode cX0_copyFrom 142 = .ok (.aload_n 0, 1) := by decide +kernel
theorem dX0_copyFrom_143 : decode cX0_copyFrom 143 = .ok (.aload_n 1, 1) := by decide +kernel
theorem dX0_copyFrom_144 : decode cX0_copyFrom 144 = .ok (.getfield 56, 3) := by decide +kernel
theorem dX0_copyFrom_147 : decode cX0_copyFrom 147 = .ok (.putfield 56, 3) := by decide +kernel
theorem dX0_copyFrom_150 : decode cX0_copyFrom 150 = .ok (.return_, 1) := by decide +kernel
theorem dX0_exists_0 : decode cX0_exists 0 = .ok (.iload_n 1, 1) := by decide +kernel
theorem dX0_exists_1 : decode cX0_exists 1 = .ok (.ifCond .lt 25, 3) := by decide +kernel
theorem dX0_exists_4 : decode cX0_exists 4 = .ok (.iload_n 1, 1) := by decide +kernel
theorem dX0_exists_5 : decode cX0_exists 5 = .ok (.bipush 16, 2) := by decide +kernel
theorem dX0_exists_7 : decode cX0_exists 7 = .ok (.if_icmp .ge 19, 3) := by decide +kernel
theorem dX0_exists_10 : decode cX0_exists 10 = .ok (.aload_n 0, 1) := by decide +kernel
theorem dX0_exists_11 : decode cX0_exists 11 = .ok (.getfield 11, 3) := by decide +kernel
theorem dX0_exists_14 : decode cX0_exists 14 = .ok (.iconst 0, 1) := by decide +kernel
theorem dX0_exists_15 : decode cX0_exists 15 = .ok (.aaload, 1) := by decide +kernel
theorem dX0_exists_16 : decode cX0_exists 16 = .ok (.iload_n 1, 1) := by decide +kernel
theorem dX0_exists_17 : decode cX0_exists 17 = .ok (.iaload, 1) := by decide +kernel
theorem dX0_exists_18 : decode cX0_exists 18 = .ok (.iconst (-1), 1) := by decide +kernel
theorem dX0_exists_19 : decode cX0_exists 19 = .ok (.if_icmp .eq 7, 3) := by decide +kernel
theorem dX0_exists_22 : decode cX0_exists 22 = .ok (.iconst 1, 1) := by decide +kernel
theorem dX0_exists_23 : decode cX0_exists 23 = .ok (.goto 4, 3) := by decide +kernel
theorem dX0_exists_26 : decode cX0_exists 26 = .ok (.iconst 0, 1) := by decide +kernel
theorem dX0_exists_27 : decode cX0_exists 27 = .ok (.ireturn, 1) := by decide +kernel
set_option maxRecDepth 20000 in
theorem ggX0_isOpen_X3_isHole : GoodIn wsX0_isOpen wsX3_isHole := goodIn_r _ [4] (by decide +kernel) (by decide +kernel)
set_option maxRecDepth 20000 in
theorem gX0_isOpen_X3_isHole_n59 : GoodIn wsX0_isOpen (wsX3_isHole) := ggX0_isOpen_X3_isHole
theorem dX0_isOpen_0 : decode cX0_isOpen 0 = .ok (.iload_n 1, 1) := by decide +kernel
theorem dX0_isOpen_1 : decode cX0_isOpen 1 = .ok (.invokestatic 59, 3) := by decide +kernel
theorem dX0_isOpen_4 : decode cX0_isOpen 4 = .ok (.ifCond .eq 19, 3) := by decide +kernel
theorem dX0_isOpen_7 : decode cX0_isOpen 7 = .ok (.aload_n 0, 1) := by decide +kernel
theorem dX0_isOpen_8 : decode cX0_isOpen 8 = .ok (.getfield 16, 3) := by decide +kernel
theorem dX0_isOpen_11 : decode cX0_isOpen 11 = .ok (.iconst 2, 1) := by decide +kernel
theorem dX0_isOpen_12 : decode cX0_isOpen 12 = .ok (.aaload, 1) := by decide +kernel
theorem dX0_isOpen_13 : decode cX0_isOpen 13 = .ok (.iload_n 1, 1) := by decide +kernel
theorem dX0_isOpen_14 : decode cX0_isOpen 14 = .ok (.iaload, 1) := by decide +kernel
theorem dX0_isOpen_15 : decode cX0_isOpen 15 = .ok (.iconst 1, 1) := by decide +kernel
theorem dX0_isOpen_16 : decode cX0_isOpen 16 = .ok (.if_icmp .ne 7, 3) := by decide +kernel
theorem dX0_isOpen_19 : decode cX0_isOpen 19 = .ok (.iconst 1, 1) := by decide +kernel
theorem dX0_isOpen_20 : decode cX0_isOpen 20 = .ok (.goto 4, 3) := by decide +kernel
theorem dX0_isOpen_23 : decode cX0_isOpen 23 = .ok (.iconst 0, 1) := by decide +kernel
theorem dX0_isOpen_24 : decode cX0_isOpen 24 = .ok (.ireturn, 1) := by decide +kernel
set_option maxRecDepth 20000 in
theorem ggX0_isFree_X0_isOpen : GoodIn wsX0_isFree wsX0_isOpen := goodIn_r _ [6, 1, 7, 8, 9, 10, 11, 12, 13, 14, 15, 16, 17, 18, 19] (by decide +kernel) (by decide +kernel)
set_option maxRecDepth 20000 in
theorem gX0_isFree_X0_isOpen : GoodIn wsX0_isFree (wsV RX0 63 RX0 yX0_isOpen wsX0_isOpen) := goodIn_app (goodIn_of _ (by decide +kernel)) ggX0_isFree_X0_isOpen
theorem dX0_isFree_0 : decode cX0_isFree 0 = .ok (.aload_n 0, 1) := by decide +kernel
theorem dX0_isFree_1 : decode cX0_isFree 1 = .ok (.iload_n 1, 1) := by decide +kernel
theorem dX0_isFree_2 : decode cX0_isFree 2 = .ok (.invokevirtual 63, 3) := by decide +kernel
theorem dX0_isFree_5 : decode cX0_isFree 5 = .ok (.ifCond .eq 19, 3) := by decide +kernel
theorem dX0_isFree_8 : decode cX0_isFree 8 = .ok (.aload_n 0, 1) := by decide +kernel
theorem dX0_isFree_9 : decode cX0_isFree 9 = .ok (.getfield 16, 3) := by decide +kernel
theorem dX0_isFree_12 : decode cX0_isFree 12 = .ok (.iconst 0, 1) := by decide +kernel
theorem dX0_isFree_13 : decode cX0_isFree 13 = .ok (.aaload, 1) := by decide +kernel
theorem dX0_isFree_14 : decode cX0_isFree 14 = .ok (.iload_n 1, 1) := by decide +kernel
theorem dX0_isFree_15 : decode cX0_isFree 15 = .ok (.iaload, 1) := by decide +kernel
theorem dX0_isFree_16 : decode cX0_isFree 16 = .ok (.iconst (-1), 1) := by decide +kernel
theorem dX0_isFree_17 : decode cX0_isFree 17 = .ok (.if_icmp .ne 7, 3) := by decide +kernel
theorem dX0_isFree_20 : decode cX0_isFree 20 = .ok (.iconst 1, 1) := by decide +kernel
theorem dX0_isFree_21 : decode cX0_isFree 21 = .ok (.goto 4, 3) := by decide +kernel
theorem dX0_isFree_24 : decode cX0_isFree 24 = .ok (.iconst 0, 1) := by decide +kernel
theorem dX0_isFree_25 : decode cX0_isFree 25 = .ok (.ireturn, 1) := by decide +kernel
set_option maxRecDepth 20000 in
theorem ggX0_numberOf_X0_doveCount : GoodIn wsX0_numberOf wsX0_doveCount := goodIn_r _ [11, 12, 13, 14, 10, 15, 16, 45, 46, 47, 48, 49, 50, 51, 52, 53, 54] (by decide +kernel) (by decide +kernel)
set_option maxRecDepth 20000 in
theorem gX0_numberOf_X0_doveCount : GoodIn wsX0_numberOf (wsV RX0 66 RX0 yX0_doveCount wsX0_doveCount) := goodIn_app (goodIn_of _ (by decide +kernel)) ggX0_numberOf_X0_doveCount
set_option maxRecDepth 20000 in
theorem ggX0_numberOf_X0_sittingByDoves : GoodIn wsX0_numberOf wsX0_sittingByDoves := goodIn_r _ [20, 7, 8, 9, 10, 11, 12, 13, 14, 15, 16, 21, 22, 23, 24, 45, 46, 47, 48, 49, 50, 51, 52, 53, 54] (by decide +kernel) (by decide +kernel)
set_option maxRecDepth 20000 in
theorem gX0_numberOf_X0_sittingByDoves : GoodIn wsX0_numberOf (wsV RX0 70 RX0 yX0_sittingByDoves wsX0_sittingByDoves) := goodIn_app (goodIn_of _ (by decide +kernel)) ggX0_numberOf_X0_sittingByDoves
set_option maxRecDepth 20000 in
theorem ggX0_numberOf_X0_sittingByHoles : GoodIn wsX0_numberOf wsX0_sittingByHoles := goodIn_r _ [28, 29, 45, 46, 47, 48, 49, 50, 51, 52, 53, 54] (by decide +kernel) (by decide +kernel)
set_option maxRecDepth 20000 in
theorem gX0_numberOf_X0_sittingByHoles : GoodIn wsX0_numberOf (wsV RX0 73 RX0 yX0_sittingByHoles wsX0_sittingByHoles) := goodIn_app (goodIn_of _ (by decide +kernel)) ggX0_numberOf_X0_sittingByHoles
set_option maxRecDepth 20000 in
theorem ggX0_numberOf_X0_placedAt : GoodIn wsX0_numberOf wsX0_placedAt := goodIn_r _ [24, 16, 12, 13, 14, 10, 15, 45, 46, 47, 48, 49, 50, 51, 52, 53, 54] (by decide +kernel) (by decide +kernel)
set_option maxRecDepth 20000 in
theorem gX0_numberOf_X0_placedAt : GoodIn wsX0_numberOf (wsV RX0 76 RX0 yX0_placedAt wsX0_placedAt) := goodIn_app (goodIn_of _ (by decide +kernel)) ggX0_numberOf_X0_placedAt
set_option maxRecDepth 20000 in
theorem ggX0_numberOf_X0_openHoles : GoodIn wsX0_numberOf wsX0_openHoles := goodIn_r _ [33, 34, 35, 36, 10, 37, 29, 38, 39, 40, 45, 46, 47, 48, 49, 50, 51, 52, 53, 54] (by decide +kernel) (by decide +kernel)
set_option maxRecDepth 20000 in
theorem gX0_numberOf_X0_openHoles : GoodIn wsX0_numberOf (wsV RX0 80 RX0 yX0_openHoles wsX0_openHoles) := goodIn_app (goodIn_of _ (by decide +kernel)) ggX0_numberOf_X0_openHoles
set_option maxRecDepth 20000 in
theorem ggX0_numberOf_X0_pairs : GoodIn wsX0_numberOf wsX0_pairs := goodIn_r _ [44, 16, 12, 13, 14, 10, 15, 45, 46, 47, 48, 49, 50, 51, 52, 53, 54] (by decide +kernel) (by decide +kernel)
set_option maxRecDepth 20000 in
theorem gX0_numberOf_X0_pairs : GoodIn wsX0_numberOf (wsV RX0 83 RX0 yX0_pairs wsX0_pairs) := goodIn_app (goodIn_of _ (by decide +kernel)) ggX0_numberOf_X0_pairs
theorem dX0_numberOf_0 : decode cX0_numberOf 0 = .ok (.iload_n 1, 1) := by decide +kernel
theorem dX0_numberOf_1 : decode cX0_numberOf 1 = .ok (.tableswitch 172 0 15 #[79, 84, 89, 94, 99, 104, 111, 117, 122, 127, 132, 137, 144, 151, 158, 165], 79) := by decide +kernel
theorem dX0_numberOf_80 : decode cX0_numberOf 80 = .ok (.aload_n 0, 1) := by decide +kernel
theorem dX0_numberOf_81 : decode cX0_numberOf 81 = .ok (.getfield 46, 3) := by decide +kernel
theorem dX0_numberOf_84 : decode cX0_numberOf 84 = .ok (.ireturn, 1) := by decide +kernel
theorem dX0_numberOf_85 : decode cX0_numberOf 85 = .ok (.aload_n 0, 1) := by decide +kernel
theorem dX0_numberOf_86 : decode cX0_numberOf 86 = .ok (.getfield 50, 3) := by decide +kernel
theorem dX0_numberOf_89 : decode cX0_numberOf 89 = .ok (.ireturn, 1) := by decide +kernel
theorem dX0_numberOf_90 : decode cX0_numberOf 90 = .ok (.aload_n 0, 1) := by decide +kernel
theorem dX0_numberOf_91 : decode cX0_numberOf 91 = .ok (.invokevirtual 66, 3) := by decide +kernel
theorem dX0_numberOf_94 : decode cX0_numberOf 94 = .ok (.ireturn, 1) := by decide +kernel
theorem dX0_numberOf_95 : decode cX0_numberOf 95 = .ok (.aload_n 0, 1) := by decide +kernel
theorem dX0_numberOf_96 : decode cX0_numberOf 96 = .ok (.invokevirtual 70, 3) := by decide +kernel
theorem dX0_numberOf_99 : decode cX0_numberOf 99 = .ok (.ireturn, 1) := by decide +kernel
theorem dX0_numberOf_100 : decode cX0_numberOf 100 = .ok (.aload_n 0, 1) := by decide +kernel
theorem dX0_numberOf_101 : decode cX0_numberOf 101 = .ok (.invokevirtual 73, 3) := by decide +kernel
theorem dX0_numberOf_104 : decode cX0_numberOf 104 = .ok (.ireturn, 1) := by decide +kernel
theorem dX0_numberOf_105 : decode cX0_numberOf 105 = .ok (.aload_n 0, 1) := by decide +kernel
theorem dX0_numberOf_106 : decode cX0_numberOf 106 = .ok (.bipush 24, 2) := by decide +kernel
theorem dX0_numberOf_108 : decode cX0_numberOf 108 = .ok (.invokevirtual 76, 3) := by decide +kernel
theorem dX0_numberOf_111 : decode cX0_numberOf 111 = .ok (.ireturn, 1) := by decide +kernel
theorem dX0_numberOf_112 : decode cX0_numberOf 112 = .ok (.aload_n 0, 1) := by decide +kernel
theorem dX0_numberOf_113 : decode cX0_numberOf 113 = .ok (.iconst (-1), 1) := by decide +kernel
theorem dX0_numberOf_114 : decode cX0_numberOf 114 = .ok (.invokevirtual 76, 3) := by decide +kernel
theorem dX0_numberOf_117 : decode cX0_numberOf 117 = .ok (.ireturn, 1) := by decide +kernel
theorem dX0_numberOf_118 : decode cX0_numberOf 118 = .ok (.aload_n 0, 1) := by decide +kernel
theorem dX0_numberOf_119 : decode cX0_numberOf 119 = .ok (.invokevirtual 80, 3) := by decide +kernel
theorem dX0_numberOf_122 : decode cX0_numberOf 122 = .ok (.ireturn, 1) := by decide +kernel
theorem dX0_numberOf_123 : decode cX0_numberOf 123 = .ok (.aload_n 0, 1) := by decide +kernel
theorem dX0_numberOf_124 : decode cX0_numberOf 124 = .ok (.invokevirtual 83, 3) := by decide +kernel
theorem dX0_numberOf_127 : decode cX0_numberOf 127 = .ok (.ireturn, 1) := by decide +kernel
theorem dX0_numberOf_128 : decode cX0_numberOf 128 = .ok (.aload_n 0, 1) := by decide +kernel
theorem dX0_numberOf_129 : decode cX0_numberOf 129 = .ok (.getfield 53, 3) := by decide +kernel
theorem dX0_numberOf_132 : decode cX0_numberOf 132 = .ok (.ireturn, 1) := by decide +kernel
theorem dX0_numberOf_133 : decode cX0_numberOf 133 = .ok (.aload_n 0, 1) := by decide +kernel
theorem dX0_numberOf_134 : decode cX0_numberOf 134 = .ok (.getfield 56, 3) := by decide +kernel
theorem dX0_numberOf_137 : decode cX0_numberOf 137 = .ok (.ireturn, 1) := by decide +kernel
theorem dX0_numberOf_138 : decode cX0_numberOf 138 = .ok (.aload_n 0, 1) := by decide +kernel
theorem dX0_numberOf_139 : decode cX0_numberOf 139 = .ok (.getfield 23, 3) := by decide +kernel
theorem dX0_numberOf_142 : decode cX0_numberOf 142 = .ok (.iconst 0, 1) := by decide +kernel
theorem dX0_numberOf_143 : decode cX0_numberOf 143 = .ok (.iaload, 1) := by decide +kernel
theorem dX0_numberOf_144 : decode cX0_numberOf 144 = .ok (.ireturn, 1) := by decide +kernel
theorem dX0_numberOf_145 : decode cX0_numberOf 145 = .ok (.aload_n 0, 1) := by decide +kernel
theorem dX0_numberOf_146 : decode cX0_numberOf 146 = .ok (.getfield 23, 3) := by decide +kernel
theorem dX0_numberOf_149 : decode cX0_numberOf 149 = .ok (.iconst 1, 1) := by decide +kernel
theorem dX0_numberOf_150 : decode cX0_numberOf 150 = .ok (.iaload, 1) := by decide +kernel
theorem dX0_numberOf_151 : decode cX0_numberOf 151 = .ok (.ireturn, 1) := by decide +kernel
theorem dX0_numberOf_152 : decode cX0_numberOf 152 = .ok (.aload_n 0, 1) := by decide +kernel
theorem dX0_numberOf_153 : decode cX0_numberOf 153 = .ok (.getfield 23, 3) := by decide +kernel
theorem dX0_numberOf_156 : decode cX0_numberOf 156 = .ok (.iconst 2, 1) := by decide +kernel
theorem dX0_numberOf_157 : decode cX0_numberOf 157 = .ok (.iaload, 1) := by decide +kernel
theorem dX0_numberOf_158 : decode cX0_numberOf 158 = .ok (.ireturn, 1) := by decide +kernel
theorem dX0_numberOf_159 : decode cX0_numberOf 159 = .ok (.aload_n 0, 1) := by decide +kernel
theorem dX0_numberOf_160 : decode cX0_numberOf 160 = .ok (.getfield 23, 3) := by decide +kernel
theorem dX0_numberOf_163 : decode cX0_numberOf 163 = .ok (.iconst 3, 1) := by decide +kernel
theorem dX0_numberOf_164 : decode cX0_numberOf 164 = .ok (.iaload, 1) := by decide +kernel
theorem dX0_numberOf_165 : decode cX0_numberOf 165 = .ok (.ireturn, 1) := by decide +kernel
theorem dX0_numberOf_166 : decode cX0_numberOf 166 = .ok (.aload_n 0, 1) := by decide +kernel
theorem dX0_numberOf_167 : decode cX0_numberOf 167 = .ok (.getfield 19, 3) := by decide +kernel
theorem dX0_numberOf_170 : decode cX0_numberOf 170 = .ok (.iconst 0, 1) := by decide +kernel
theorem dX0_numberOf_171 : decode cX0_numberOf 171 = .ok (.iaload, 1) := by decide +kernel
theorem dX0_numberOf_172 : decode cX0_numberOf 172 = .ok (.ireturn, 1) := by decide +kernel
theorem dX0_numberOf_173 : decode cX0_numberOf 173 = .ok (.aload_n 0, 1) := by decide +kernel
theorem dX0_numberOf_174 : decode cX0_numberOf 174 = .ok (.getfield 19, 3) := by decide +kernel
theorem dX0_numberOf_177 : decode cX0_numberOf 177 = .ok (.iconst 1, 1) := by decide +kernel
theorem dX0_numberOf_178 : decode cX0_numberOf 178 = .ok (.iaload, 1) := by decide +kernel
theorem dX0_numberOf_179 : decode cX0_numberOf 179 = .ok (.ireturn, 1) := by decide +kernel
set_option maxRecDepth 20000 in
theorem ggX0_doveCount_X0_exists : GoodIn wsX0_doveCount wsX0_exists := goodIn_r _ [5, 6, 7, 8, 9, 10, 11, 12, 13, 14, 15, 16] (by decide +kernel) (by decide +kernel)
set_option maxRecDepth 20000 in
theorem gX0_doveCount_X0_exists : GoodIn wsX0_doveCount (wsV RX0 86 RX0 yX0_exists wsX0_exists) := goodIn_app (goodIn_of _ (by decide +kernel)) ggX0_doveCount_X0_exists
theorem dX0_doveCount_0 : decode cX0_doveCount 0 = .ok (.iconst 0, 1) := by decide +kernel
theorem dX0_doveCount_1 : decode cX0_doveCount 1 = .ok (.istore_n 1, 1) := by decide +kernel
theorem dX0_doveCount_2 : decode cX0_doveCount 2 = .ok (.iconst 0, 1) := by decide +kernel
theorem dX0_doveCount_3 : decode cX0_doveCount 3 = .ok (.istore_n 2, 1) := by decide +kernel
theorem dX0_doveCount_4 : decode cX0_doveCount 4 = .ok (.iload_n 2, 1) := by decide +kernel
theorem dX0_doveCount_5 : decode cX0_doveCount 5 = .ok (.bipush 16, 2) := by decide +kernel
theorem dX0_doveCount_7 : decode cX0_doveCount 7 = .ok (.if_icmp .ge 20, 3) := by decide +kernel
theorem dX0_doveCount_10 : decode cX0_doveCount 10 = .ok (.aload_n 0, 1) := by decide +kernel
theorem dX0_doveCount_11 : decode cX0_doveCount 11 = .ok (.iload_n 2, 1) := by decide +kernel
theorem dX0_doveCount_12 : decode cX0_doveCount 12 = .ok (.invokevirtual 86, 3) := by decide +kernel
theorem dX0_doveCount_15 : decode cX0_doveCount 15 = .ok (.ifCond .eq 6, 3) := by decide +kernel
theorem dX0_doveCount_18 : decode cX0_doveCount 18 = .ok (.iinc 1 1, 3) := by decide +kernel
theorem dX0_doveCount_21 : decode cX0_doveCount 21 = .ok (.iinc 2 1, 3) := by decide +kernel
theorem dX0_doveCount_24 : decode cX0_doveCount 24 = .ok (.goto (-20), 3) := by decide +kernel
theorem dX0_doveCount_27 : decode cX0_doveCount 27 = .ok (.iload_n 1, 1) := by decide +kernel
theorem dX0_doveCount_28 : decode cX0_doveCount 28 = .ok (.ireturn, 1) := by decide +kernel
set_option maxRecDepth 20000 in
theorem ggX0_sittingByDoves_X0_doveCount : GoodIn wsX0_sittingByDoves wsX0_doveCount := goodIn_r _ [5, 6, 7, 8, 4, 9, 10, 15, 16, 17, 18, 19, 20, 21, 22, 23, 24] (by decide +kernel) (by decide +kernel)
set_option maxRecDepth 20000 in
theorem gX0_sittingByDoves_X0_doveCount : GoodIn wsX0_sittingByDoves (wsV RX0 66 RX0 yX0_doveCount wsX0_doveCount) := goodIn_app (goodIn_of _ (by decide +kernel)) ggX0_sittingByDoves_X0_doveCount
set_option maxRecDepth 20000 in
theorem ggX0_sittingByDoves_X0_placedAt : GoodIn wsX0_sittingByDoves wsX0_placedAt := goodIn_r _ [14, 10, 6, 7, 8, 4, 9, 15, 16, 17, 18, 19, 20, 21, 22, 23, 24] (by decide +kernel) (by decide +kernel)
set_option maxRecDepth 20000 in
theorem gX0_sittingByDoves_X0_placedAt : GoodIn wsX0_sittingByDoves (wsV RX0 76 RX0 yX0_placedAt wsX0_placedAt) := goodIn_app (goodIn_of _ (by decide +kernel)) ggX0_sittingByDoves_X0_placedAt
theorem dX0_sittingByDoves_0 : decode cX0_sittingByDoves 0 = .ok (.aload_n 0, 1) := by decide +kernel
theorem dX0_sittingByDoves_1 : decode cX0_sittingByDoves 1 = .ok (.invokevirtual 66, 3) := by decide +kernel
theorem dX0_sittingByDoves_4 : decode cX0_sittingByDoves 4 = .ok (.aload_n 0, 1) := by decide +kernel
theorem dX0_sittingByDoves_5 : decode cX0_sittingByDoves 5 = .ok (.bipush 24, 2) := by decide +kernel
theorem dX0_sittingByDoves_7 : decode cX0_sittingByDoves 7 = .ok (.invokevirtual 76, 3) := by decide +kernel
theorem dX0_sittingByDoves_10 : decode cX0_sittingByDoves 10 = .ok (.isub, 1) := by decide +kernel
theorem dX0_sittingByDoves_11 : decode cX0_sittingByDoves 11 = .ok (.aload_n 0, 1) := by decide +kernel
theorem dX0_sittingByDoves_12 : decode cX0_sittingByDoves 12 = .ok (.iconst (-1), 1) := by decide +kernel
theorem dX0_sittingByDoves_13 : decode cX0_sittingByDoves 13 = .ok (.invokevirtual 76, 3) := by decide +kernel
theorem dX0_sittingByDoves_16 : decode cX0_sittingByDoves 16 = .ok (.isub, 1) := by decide +kernel
theorem dX0_sittingByDoves_17 : decode cX0_sittingByDoves 17 = .ok (.ireturn, 1) := by decide +kernel
theorem dX0_sittingByHoles_0 : decode cX0_sittingByHoles 0 = .ok (.iconst 0, 1) := by decide +kernel
theorem dX0_sittingByHoles_1 : decode cX0_sittingByHoles 1 = .ok (.istore_n 1, 1) := by decide +kernel
theorem dX0_sittingByHoles_2 : decode cX0_sittingByHoles 2 = .ok (.iconst 0, 1) := by decide +kernel
theorem dX0_sittingByHoles_3 : decode cX0_sittingByHoles 3 = .ok (.istore_n 2, 1) := by decide +kernel
theorem dX0_sittingByHoles_4 : decode cX0_sittingByHoles 4 = .ok (.iload_n 2, 1) := by decide +kernel
theorem dX0_sittingByHoles_5 : decode cX0_sittingByHoles 5 = .ok (.bipush 24, 2) := by decide +kernel
theorem dX0_sittingByHoles_7 : decode cX0_sittingByHoles 7 = .ok (.if_icmp .ge 24, 3) := by decide +kernel
theorem dX0_sittingByHoles_10 : decode cX0_sittingByHoles 10 = .ok (.aload_n 0, 1) := by decide +kernel
theorem dX0_sittingByHoles_11 : decode cX0_sittingByHoles 11 = .ok (.getfield 16, 3) := by decide +kernel
theorem dX0_sittingByHoles_14 : decode cX0_sittingByHoles 14 = .ok (.iconst 0, 1) := by decide +kernel
theorem dX0_sittingByHoles_15 : decode cX0_sittingByHoles 15 = .ok (.aaload, 1) := by decide +kernel
theorem dX0_sittingByHoles_16 : decode cX0_sittingByHoles 16 = .ok (.iload_n 2, 1) := by decide +kernel
theorem dX0_sittingByHoles_17 : decode cX0_sittingByHoles 17 = .ok (.iaload, 1) := by decide +kernel
theorem dX0_sittingByHoles_18 : decode cX0_sittingByHoles 18 = .ok (.iconst (-1), 1) := by decide +kernel
theorem dX0_sittingByHoles_19 : decode cX0_sittingByHoles 19 = .ok (.if_icmp .eq 6, 3) := by decide +kernel
theorem dX0_sittingByHoles_22 : decode cX0_sittingByHoles 22 = .ok (.iinc 1 1, 3) := by decide +kernel
theorem dX0_sittingByHoles_25 : decode cX0_sittingByHoles 25 = .ok (.iinc 2 1, 3) := by decide +kernel
theorem dX0_sittingByHoles_28 : decode cX0_sittingByHoles 28 = .ok (.goto (-24), 3) := by decide +kernel
theorem dX0_sittingByHoles_31 : decode cX0_sittingByHoles 31 = .ok (.iload_n 1, 1) := by decide +kernel
theorem dX0_sittingByHoles_32 : decode cX0_sittingByHoles 32 = .ok (.ireturn, 1) := by decide +kernel
set_option maxRecDepth 20000 in
theorem ggX0_placedAt_X0_exists : GoodIn wsX0_placedAt wsX0_exists := goodIn_r _ [6, 1, 7, 8, 9, 10, 11, 12, 13, 14, 15, 16] (by decide +kernel) (by decide +kernel)
set_option maxRecDepth 20000 in
theorem gX0_placedAt_X0_exists : GoodIn wsX0_placedAt (wsV RX0 86 RX0 yX0_exists wsX0_exists) := goodIn_app (goodIn_of _ (by decide +kernel)) ggX0_placedAt_X0_exists
theorem dX0_placedAt_0 : decode cX0_placedAt 0 = .ok (.iconst 0, 1) := by decide +kernel
theorem dX0_placedAt_1 : decode cX0_placedAt 1 = .ok (.istore_n 2, 1) := by decide +kernel
theorem dX0_placedAt_2 : decode cX0_placedAt 2 = .ok (.iconst 0, 1) := by decide +kernel
theorem dX0_placedAt_3 : decode cX0_placedAt 3 = .ok (.istore_n 3, 1) := by decide +kernel
theorem dX0_placedAt_4 : decode cX0_placedAt 4 = .ok (.iload_n 3, 1) := by decide +kernel
theorem dX0_placedAt_5 : decode cX0_placedAt 5 = .ok (.bipush 16, 2) := by decide +kernel
theorem dX0_placedAt_7 : decode cX0_placedAt 7 = .ok (.if_icmp .ge 32, 3) := by decide +kernel
theorem dX0_placedAt_10 : decode cX0_placedAt 10 = .ok (.aload_n 0, 1) := by decide +kernel
theorem dX0_placedAt_11 : decode cX0_placedAt 11 = .ok (.iload_n 3, 1) := by decide +kernel
theorem dX0_placedAt_12 : decode cX0_placedAt 12 = .ok (.invokevirtual 86, 3) := by decide +kernel
theorem dX0_placedAt_15 : decode cX0_placedAt 15 = .ok (.ifCond .eq 18, 3) := by decide +kernel
theorem dX0_placedAt_18 : decode cX0_placedAt 18 = .ok (.aload_n 0, 1) := by decide +kernel
theorem dX0_placedAt_19 : decode cX0_placedAt 19 = .ok (.getfield 11, 3) := by decide +kernel
theorem dX0_placedAt_22 : decode cX0_placedAt 22 = .ok (.iconst 2, 1) := by decide +kernel
theorem dX0_placedAt_23 : decode cX0_placedAt 23 = .ok (.aaload, 1) := by decide +kernel
theorem dX0_placedAt_24 : decode cX0_placedAt 24 = .ok (.iload_n 3, 1) := by decide +kernel
theorem dX0_placedAt_25 : decode cX0_placedAt 25 = .ok (.iaload, 1) := by decide +kernel
theorem dX0_placedAt_26 : decode cX0_placedAt 26 = .ok (.iload_n 1, 1) := by decide +kernel
theorem dX0_placedAt_27 : decode cX0_placedAt 27 = .ok (.if_icmp .ne 6, 3) := by decide +kernel
theorem dX0_placedAt_30 : decode cX0_placedAt 30 = .ok (.iinc 2 1, 3) := by decide +kernel
theorem dX0_placedAt_33 : decode cX0_placedAt 33 = .ok (.iinc 3 1, 3) := by decide +kernel
theorem dX0_placedAt_36 : decode cX0_placedAt 36 = .ok (.goto (-32), 3) := by decide +kernel
theorem dX0_placedAt_39 : decode cX0_placedAt 39 = .ok (.iload_n 2, 1) := by decide +kernel
theorem dX0_placedAt_40 : decode cX0_placedAt 40 = .ok (.ireturn, 1) := by decide +kernel
set_option maxRecDepth 20000 in
theorem ggX0_inOwnHoles_X0_exists : GoodIn wsX0_inOwnHoles wsX0_exists := goodIn_r _ [6, 1, 7, 8, 9, 10, 11, 12, 13, 14, 15, 16] (by decide +kernel) (by decide +kernel)
set_option maxRecDepth 20000 in
theorem gX0_inOwnHoles_X0_exists : GoodIn wsX0_inOwnHoles (wsV RX0 86 RX0 yX0_exists wsX0_exists) := goodIn_app (goodIn_of _ (by decide +kernel)) ggX0_inOwnHoles_X0_exists
theorem dX0_inOwnHoles_0 : decode cX0_inOwnHoles 0 = .ok (.iconst 0, 1) := by decide +kernel
theorem dX0_inOwnHoles_1 : decode cX0_inOwnHoles 1 = .ok (.istore_n 1, 1) := by decide +kernel
theorem dX0_inOwnHoles_2 : decode cX0_inOwnHoles 2 = .ok (.iconst 0, 1) := by decide +kernel
theorem dX0_inOwnHoles_3 : decode cX0_inOwnHoles 3 = .ok (.istore_n 2, 1) := by decide +kernel
theorem dX0_inOwnHoles_4 : decode cX0_inOwnHoles 4 = .ok (.iload_n 2, 1) := by decide +kernel
theorem dX0_inOwnHoles_5 : decode cX0_inOwnHoles 5 = .ok (.bipush 16, 2) := by decide +kernel
theorem dX0_inOwnHoles_7 : decode cX0_inOwnHoles 7 = .ok (.if_icmp .ge 39, 3) := by decide +kernel
theorem dX0_inOwnHoles_10 : decode cX0_inOwnHoles 10 = .ok (.aload_n 0, 1) := by decide +kernel
theorem dX0_inOwnHoles_11 : decode cX0_inOwnHoles 11 = .ok (.iload_n 2, 1) := by decide +kernel
theorem dX0_inOwnHoles_12 : decode cX0_inOwnHoles 12 = .ok (.invokevirtual 86, 3) := by decide +kernel
theorem dX0_inOwnHoles_15 : decode cX0_inOwnHoles 15 = .ok (.ifCond .eq 25, 3) := by decide +kernel
theorem dX0_inOwnHoles_18 : decode cX0_inOwnHoles 18 = .ok (.aload_n 0, 1) := by decide +kernel
theorem dX0_inOwnHoles_19 : decode cX0_inOwnHoles 19 = .ok (.getfield 11, 3) := by decide +kernel
theorem dX0_inOwnHoles_22 : decode cX0_inOwnHoles 22 = .ok (.iconst 2, 1) := by decide +kernel
theorem dX0_inOwnHoles_23 : decode cX0_inOwnHoles 23 = .ok (.aaload, 1) := by decide +kernel
theorem dX0_inOwnHoles_24 : decode cX0_inOwnHoles 24 = .ok (.iload_n 2, 1) := by decide +kernel
theorem dX0_inOwnHoles_25 : decode cX0_inOwnHoles 25 = .ok (.iaload, 1) := by decide +kernel
theorem dX0_inOwnHoles_26 : decode cX0_inOwnHoles 26 = .ok (.aload_n 0, 1) := by decide +kernel
theorem dX0_inOwnHoles_27 : decode cX0_inOwnHoles 27 = .ok (.getfield 11, 3) := by decide +kernel
theorem dX0_inOwnHoles_30 : decode cX0_inOwnHoles 30 = .ok (.iconst 0, 1) := by decide +kernel
theorem dX0_inOwnHoles_31 : decode cX0_inOwnHoles 31 = .ok (.aaload, 1) := by decide +kernel
theorem dX0_inOwnHoles_32 : decode cX0_inOwnHoles 32 = .ok (.iload_n 2, 1) := by decide +kernel
theorem dX0_inOwnHoles_33 : decode cX0_inOwnHoles 33 = .ok (.iaload, 1) := by decide +kernel
theorem dX0_inOwnHoles_34 : decode cX0_inOwnHoles 34 = .ok (.if_icmp .ne 6, 3) := by decide +kernel
theorem dX0_inOwnHoles_37 : decode cX0_inOwnHoles 37 = .ok (.iinc 1 1, 3) := by decide +kernel
theorem dX0_inOwnHoles_40 : decode cX0_inOwnHoles 40 = .ok (.iinc 2 1, 3) := by decide +kernel
theorem dX0_inOwnHoles_43 : decode cX0_inOwnHoles 43 = .ok (.goto (-39), 3) := by decide +kernel
theorem dX0_inOwnHoles_46 : decode cX0_inOwnHoles 46 = .ok (.iload_n 1, 1) := by decide +kernel
theorem dX0_inOwnHoles_47 : decode cX0_inOwnHoles 47 = .ok (.ireturn, 1) := by decide +kernel
set_option maxRecDepth 20000 in
theorem ggX0_openHoles_X0_isOpen : GoodIn wsX0_openHoles wsX0_isOpen := goodIn_r _ [5, 6, 7, 8, 9, 10, 11, 12, 13, 14, 15, 16, 17, 18, 19] (by decide +kernel) (by decide +kernel)
set_option maxRecDepth 20000 in
theorem gX0_openHoles_X0_isOpen : GoodIn wsX0_openHoles (wsV RX0 63 RX0 yX0_isOpen wsX0_isOpen) := goodIn_app (goodIn_of _ (by decide +kernel)) ggX0_openHoles_X0_isOpen
theorem dX0_openHoles_0 : decode cX0_openHoles 0 = .ok (.iconst 0, 1) := by decide +kernel
theorem dX0_openHoles_1 : decode cX0_openHoles 1 = .ok (.istore_n 1, 1) := by decide +kernel
theorem dX0_openHoles_2 : decode cX0_openHoles 2 = .ok (.iconst 0, 1) := by decide +kernel
theorem dX0_openHoles_3 : decode cX0_openHoles 3 = .ok (.istore_n 2, 1) := by decide +kernel
theorem dX0_openHoles_4 : decode cX0_openHoles 4 = .ok (.iload_n 2, 1) := by decide +kernel
theorem dX0_openHoles_5 : decode cX0_openHoles 5 = .ok (.bipush 24, 2) := by decide +kernel
theorem dX0_openHoles_7 : decode cX0_openHoles 7 = .ok (.if_icmp .ge 20, 3) := by decide +kernel
theorem dX0_openHoles_10 : decode cX0_openHoles 10 = .ok (.aload_n 0, 1) := by decide +kernel
theorem dX0_openHoles_11 : decode cX0_openHoles 11 = .ok (.iload_n 2, 1) := by decide +kernel
theorem dX0_openHoles_12 : decode cX0_openHoles 12 = .ok (.invokevirtual 63, 3) := by decide +kernel
theorem dX0_openHoles_15 : decode cX0_openHoles 15 = .ok (.ifCond .eq 6, 3) := by decide +kernel
theorem dX0_openHoles_18 : decode cX0_openHoles 18 = .ok (.iinc 1 1, 3) := by decide +kernel
theorem dX0_openHoles_21 : decode cX0_openHoles 21 = .ok (.iinc 2 1, 3) := by decide +kernel
theorem dX0_openHoles_24 : decode cX0_openHoles 24 = .ok (.goto (-20), 3) := by decide +kernel
theorem dX0_openHoles_27 : decode cX0_openHoles 27 = .ok (.iload_n 1, 1) := by decide +kernel
theorem dX0_openHoles_28 : decode cX0_openHoles 28 = .ok (.ireturn, 1) := by decide +kernel
set_option maxRecDepth 20000 in
theorem ggX0_pairs_X0_exists : GoodIn wsX0_pairs wsX0_exists := goodIn_r _ [6, 1, 7, 8, 9, 10, 11, 12, 13, 14, 15, 16] (by decide +kernel) (by decide +kernel)
set_option maxRecDepth 20000 in
theorem gX0_pairs_X0_exists : GoodIn wsX0_pairs (wsV RX0 86 RX0 yX0_exists wsX0_exists) := goodIn_app (goodIn_of _ (by decide +kernel)) ggX0_pairs_X0_exists
theorem dX0_pairs_0 : decode cX0_pairs 0 = .ok (.iconst 0, 1) := by decide +kernel
theorem dX0_pairs_1 : decode cX0_pairs 1 = .ok (.istore_n 1, 1) := by decide +kernel
theorem dX0_pairs_2 : decode cX0_pairs 2 = .ok (.iconst 0, 1) := by decide +kernel
theorem dX0_pairs_3 : decode cX0_pairs 3 = .ok (.istore_n 2, 1) := by decide +kernel
theorem dX0_pairs_4 : decode cX0_pairs 4 = .ok (.iload_n 2, 1) := by decide +kernel
theorem dX0_pairs_5 : decode cX0_pairs 5 = .ok (.bipush 16, 2) := by decide +kernel
theorem dX0_pairs_7 : decode cX0_pairs 7 = .ok (.if_icmp .ge 32, 3) := by decide +kernel
theorem dX0_pairs_10 : decode cX0_pairs 10 = .ok (.aload_n 0, 1) := by decide +kernel
theorem dX0_pairs_11 : decode cX0_pairs 11 = .ok (.iload_n 2, 1) := by decide +kernel
theorem dX0_pairs_12 : decode cX0_pairs 12 = .ok (.invokevirtual 86, 3) := by decide +kernel
theorem dX0_pairs_15 : decode cX0_pairs 15 = .ok (.ifCond .eq 18, 3) := by decide +kernel
theorem dX0_pairs_18 : decode cX0_pairs 18 = .ok (.aload_n 0, 1) := by decide +kernel
theorem dX0_pairs_19 : decode cX0_pairs 19 = .ok (.getfield 11, 3) := by decide +kernel
theorem dX0_pairs_22 : decode cX0_pairs 22 = .ok (.iconst 3, 1) := by decide +kernel
theorem dX0_pairs_23 : decode cX0_pairs 23 = .ok (.aaload, 1) := by decide +kernel
theorem dX0_pairs_24 : decode cX0_pairs 24 = .ok (.iload_n 2, 1) := by decide +kernel
theorem dX0_pairs_25 : decode cX0_pairs 25 = .ok (.iaload, 1) := by decide +kernel
theorem dX0_pairs_26 : decode cX0_pairs 26 = .ok (.iconst (-1), 1) := by decide +kernel
theorem dX0_pairs_27 : decode cX0_pairs 27 = .ok (.if_icmp .eq 6, 3) := by decide +kernel
theorem dX0_pairs_30 : decode cX0_pairs 30 = .ok (.iinc 1 1, 3) := by decide +kernel
theorem dX0_pairs_33 : decode cX0_pairs 33 = .ok (.iinc 2 1, 3) := by decide +kernel
theorem dX0_pairs_36 : decode cX0_pairs 36 = .ok (.goto (-32), 3) := by decide +kernel
theorem dX0_pairs_39 : decode cX0_pairs 39 = .ok (.iload_n 1, 1) := by decide +kernel
theorem dX0_pairs_40 : decode cX0_pairs 40 = .ok (.iconst 2, 1) := by decide +kernel
theorem dX0_pairs_41 : decode cX0_pairs 41 = .ok (.idiv, 1) := by decide +kernel
theorem dX0_pairs_42 : decode cX0_pairs 42 = .ok (.ireturn, 1) := by decide +kernel
theorem dX0_reasonNotHome_0 : decode cX0_reasonNotHome 0 = .ok (.aload_n 0, 1) := by decide +kernel
theorem dX0_reasonNotHome_1 : decode cX0_reasonNotHome 1 = .ok (.getfield 11, 3) := by decide +kernel
theorem dX0_reasonNotHome_4 : decode cX0_reasonNotHome 4 = .ok (.iconst 2, 1) := by decide +kernel
theorem dX0_reasonNotHome_5 : decode cX0_reasonNotHome 5 = .ok (.aaload, 1) := by decide +kernel
theorem dX0_reasonNotHome_6 : decode cX0_reasonNotHome 6 = .ok (.iload_n 1, 1) := by decide +kernel
theorem dX0_reasonNotHome_7 : decode cX0_reasonNotHome 7 = .ok (.iaload, 1) := by decide +kernel
theorem dX0_reasonNotHome_8 : decode cX0_reasonNotHome 8 = .ok (.iconst (-1), 1) := by decide +kernel
theorem dX0_reasonNotHome_9 : decode cX0_reasonNotHome 9 = .ok (.if_icmp .eq 5, 3) := by decide +kernel
theorem dX0_reasonNotHome_12 : decode cX0_reasonNotHome 12 = .ok (.iconst 1, 1) := by decide +kernel
theorem dX0_reasonNotHome_13 : decode cX0_reasonNotHome 13 = .ok (.ireturn, 1) := by decide +kernel
theorem dX0_reasonNotHome_14 : decode cX0_reasonNotHome 14 = .ok (.iload_n 2, 1) := by decide +kernel
theorem dX0_reasonNotHome_15 : decode cX0_reasonNotHome 15 = .ok (.aload_n 0, 1) := by decide +kernel
theorem dX0_reasonNotHome_16 : decode cX0_reasonNotHome 16 = .ok (.getfield 50, 3) := by decide +kernel
theorem dX0_reasonNotHome_19 : decode cX0_reasonNotHome 19 = .ok (.if_icmp .ge 7, 3) := by decide +kernel
theorem dX0_reasonNotHome_22 : decode cX0_reasonNotHome 22 = .ok (.iconst 2, 1) := by decide +kernel
theorem dX0_reasonNotHome_23 : decode cX0_reasonNotHome 23 = .ok (.goto 4, 3) := by decide +kernel
theorem dX0_reasonNotHome_26 : decode cX0_reasonNotHome 26 = .ok (.iconst 0, 1) := by decide +kernel
theorem dX0_reasonNotHome_27 : decode cX0_reasonNotHome 27 = .ok (.ireturn, 1) := by decide +kernel
set_option maxRecDepth 20000 in
theorem ggX0_reasonNotToShut_X0_isOpen : GoodIn wsX0_reasonNotToShut wsX0_isOpen := goodIn_r _ [6, 1, 7, 8, 9, 10, 11, 12, 13, 14, 15, 16, 17, 18, 19] (by decide +kernel) (by decide +kernel)
set_option maxRecDepth 20000 in
theorem gX0_reasonNotToShut_X0_isOpen : GoodIn wsX0_reasonNotToShut (wsV RX0 63 RX0 yX0_isOpen wsX0_isOpen) := goodIn_app (goodIn_of _ (by decide +kernel)) ggX0_reasonNotToShut_X0_isOpen
theorem dX0_reasonNotToShut_0 : decode cX0_reasonNotToShut 0 = .ok (.aload_n 0, 1) := by decide +kernel
theorem dX0_reasonNotToShut_1 : decode cX0_reasonNotToShut 1 = .ok (.getfield 16, 3) := by decide +kernel
theorem dX0_reasonNotToShut_4 : decode cX0_reasonNotToShut 4 = .ok (.iconst 0, 1) := by decide +kernel
theorem dX0_reasonNotToShut_5 : decode cX0_reasonNotToShut 5 = .ok (.aaload, 1) := by decide +kernel
theorem dX0_reasonNotToShut_6 : decode cX0_reasonNotToShut 6 = .ok (.iload_n 1, 1) := by decide +kernel
theorem dX0_reasonNotToShut_7 : decode cX0_reasonNotToShut 7 = .ok (.iaload, 1) := by decide +kernel
theorem dX0_reasonNotToShut_8 : decode cX0_reasonNotToShut 8 = .ok (.iconst (-1), 1) := by decide +kernel
theorem dX0_reasonNotToShut_9 : decode cX0_reasonNotToShut 9 = .ok (.if_icmp .eq 5, 3) := by decide +kernel
theorem dX0_reasonNotToShut_12 : decode cX0_reasonNotToShut 12 = .ok (.iconst 3, 1) := by decide +kernel
theorem dX0_reasonNotToShut_13 : decode cX0_reasonNotToShut 13 = .ok (.ireturn, 1) := by decide +kernel
theorem dX0_reasonNotToShut_14 : decode cX0_reasonNotToShut 14 = .ok (.aload_n 0, 1) := by decide +kernel
theorem dX0_reasonNotToShut_15 : decode cX0_reasonNotToShut 15 = .ok (.iload_n 1, 1) := by decide +kernel
theorem dX0_reasonNotToShut_16 : decode cX0_reasonNotToShut 16 = .ok (.invokevirtual 63, 3) := by decide +kernel
theorem dX0_reasonNotToShut_19 : decode cX0_reasonNotToShut 19 = .ok (.ifCond .eq 7, 3) := by decide +kernel
theorem dX0_reasonNotToShut_22 : decode cX0_reasonNotToShut 22 = .ok (.iconst 0, 1) := by decide +kernel
theorem dX0_reasonNotToShut_23 : decode cX0_reasonNotToShut 23 = .ok (.goto 4, 3) := by decide +kernel
theorem dX0_reasonNotToShut_26 : decode cX0_reasonNotToShut 26 = .ok (.iconst 4, 1) := by decide +kernel
theorem dX0_reasonNotToShut_27 : decode cX0_reasonNotToShut 27 = .ok (.ireturn, 1) := by decide +kernel
set_option maxRecDepth 20000 in
theorem ggX0_reasonNotToBuy_X0_doveCount : GoodIn wsX0_reasonNotToBuy wsX0_doveCount := goodIn_r _ [6, 7, 8, 9, 5, 10, 11, 19, 20, 21, 22, 23, 24, 25, 26, 27, 28] (by decide +kernel) (by decide +kernel)
set_option maxRecDepth 20000 in
theorem gX0_reasonNotToBuy_X0_doveCount : GoodIn wsX0_reasonNotToBuy (wsV RX0 66 RX0 yX0_doveCount wsX0_doveCount) := goodIn_app (goodIn_of _ (by decide +kernel)) ggX0_reasonNotToBuy_X0_doveCount
set_option maxRecDepth 20000 in
theorem ggX0_reasonNotToBuy_X0_isOpen : GoodIn wsX0_reasonNotToBuy wsX0_isOpen := goodIn_r _ [15, 1, 16, 17, 18, 19, 20, 21, 22, 23, 24, 25, 26, 27, 28] (by decide +kernel) (by decide +kernel)
set_option maxRecDepth 20000 in
theorem gX0_reasonNotToBuy_X0_isOpen : GoodIn wsX0_reasonNotToBuy (wsV RX0 63 RX0 yX0_isOpen wsX0_isOpen) := goodIn_app (goodIn_of _ (by decide +kernel)) ggX0_reasonNotToBuy_X0_isOpen
theorem dX0_reasonNotToBuy_0 : decode cX0_reasonNotToBuy 0 = .ok (.aload_n 0, 1) := by decide +kernel
theorem dX0_reasonNotToBuy_1 : decode cX0_reasonNotToBuy 1 = .ok (.invokevirtual 66, 3) := by decide +kernel
theorem dX0_reasonNotToBuy_4 : decode cX0_reasonNotToBuy 4 = .ok (.bipush 16, 2) := by decide +kernel
theorem dX0_reasonNotToBuy_6 : decode cX0_reasonNotToBuy 6 = .ok (.if_icmp .lt 5, 3) := by decide +kernel
theorem dX0_reasonNotToBuy_9 : decode cX0_reasonNotToBuy 9 = .ok (.iconst 5, 1) := by decide +kernel
theorem dX0_reasonNotToBuy_10 : decode cX0_reasonNotToBuy 10 = .ok (.ireturn, 1) := by decide +kernel
theorem dX0_reasonNotToBuy_11 : decode cX0_reasonNotToBuy 11 = .ok (.aload_n 0, 1) := by decide +kernel
theorem dX0_reasonNotToBuy_12 : decode cX0_reasonNotToBuy 12 = .ok (.getfield 16, 3) := by decide +kernel
theorem dX0_reasonNotToBuy_15 : decode cX0_reasonNotToBuy 15 = .ok (.iconst 1, 1) := by decide +kernel
theorem dX0_reasonNotToBuy_16 : decode cX0_reasonNotToBuy 16 = .ok (.aaload, 1) := by decide +kernel
theorem dX0_reasonNotToBuy_17 : decode cX0_reasonNotToBuy 17 = .ok (.iload_n 1, 1) := by decide +kernel
theorem dX0_reasonNotToBuy_18 : decode cX0_reasonNotToBuy 18 = .ok (.iaload, 1) := by decide +kernel
theorem dX0_reasonNotToBuy_19 : decode cX0_reasonNotToBuy 19 = .ok (.iconst (-1), 1) := by decide +kernel
theorem dX0_reasonNotToBuy_20 : decode cX0_reasonNotToBuy 20 = .ok (.if_icmp .eq 6, 3) := by decide +kernel
theorem dX0_reasonNotToBuy_23 : decode cX0_reasonNotToBuy 23 = .ok (.bipush 6, 2) := by decide +kernel
theorem dX0_reasonNotToBuy_25 : decode cX0_reasonNotToBuy 25 = .ok (.ireturn, 1) := by decide +kernel
theorem dX0_reasonNotToBuy_26 : decode cX0_reasonNotToBuy 26 = .ok (.aload_n 0, 1) := by decide +kernel
theorem dX0_reasonNotToBuy_27 : decode cX0_reasonNotToBuy 27 = .ok (.iload_n 1, 1) := by decide +kernel
theorem dX0_reasonNotToBuy_28 : decode cX0_reasonNotToBuy 28 = .ok (.invokevirtual 63, 3) := by decide +kernel
theorem dX0_reasonNotToBuy_31 : decode cX0_reasonNotToBuy 31 = .ok (.ifCond .eq 7, 3) := by decide +kernel
theorem dX0_reasonNotToBuy_34 : decode cX0_reasonNotToBuy 34 = .ok (.iconst 0, 1) := by decide +kernel
theorem dX0_reasonNotToBuy_35 : decode cX0_reasonNotToBuy 35 = .ok (.goto 5, 3) := by decide +kernel
theorem dX0_reasonNotToBuy_38 : decode cX0_reasonNotToBuy 38 = .ok (.bipush 7, 2) := by decide +kernel
theorem dX0_reasonNotToBuy_40 : decode cX0_reasonNotToBuy 40 = .ok (.ireturn, 1) := by decide +kernel
theorem dX0_reasonNotToPair_0 : decode cX0_reasonNotToPair 0 = .ok (.iload_n 1, 1) := by decide +kernel
theorem dX0_reasonNotToPair_1 : decode cX0_reasonNotToPair 1 = .ok (.iload_n 2, 1) := by decide +kernel
theorem dX0_reasonNotToPair_2 : decode cX0_reasonNotToPair 2 = .ok (.if_icmp .ne 6, 3) := by decide +kernel
theorem dX0_reasonNotToPair_5 : decode cX0_reasonNotToPair 5 = .ok (.bipush 8, 2) := by decide +kernel
theorem dX0_reasonNotToPair_7 : decode cX0_reasonNotToPair 7 = .ok (.ireturn, 1) := by decide +kernel
theorem dX0_reasonNotToPair_8 : decode cX0_reasonNotToPair 8 = .ok (.aload_n 0, 1) := by decide +kernel
theorem dX0_reasonNotToPair_9 : decode cX0_reasonNotToPair 9 = .ok (.getfield 11, 3) := by decide +kernel
theorem dX0_reasonNotToPair_12 : decode cX0_reasonNotToPair 12 = .ok (.iconst 3, 1) := by decide +kernel
theorem dX0_reasonNotToPair_13 : decode cX0_reasonNotToPair 13 = .ok (.aaload, 1) := by decide +kernel
theorem dX0_reasonNotToPair_14 : decode cX0_reasonNotToPair 14 = .ok (.iload_n 1, 1) := by decide +kernel
theorem dX0_reasonNotToPair_15 : decode cX0_reasonNotToPair 15 = .ok (.iaload, 1) := by decide +kernel
theorem dX0_reasonNotToPair_16 : decode cX0_reasonNotToPair 16 = .ok (.iconst (-1), 1) := by decide +kernel
theorem dX0_reasonNotToPair_17 : decode cX0_reasonNotToPair 17 = .ok (.if_icmp .ne 15, 3) := by decide +kernel
theorem dX0_reasonNotToPair_20 : decode cX0_reasonNotToPair 20 = .ok (.aload_n 0, 1) := by decide +kernel
theorem dX0_reasonNotToPair_21 : decode cX0_reasonNotToPair 21 = .ok (.getfield 11, 3) := by decide +kernel
theorem dX0_reasonNotToPair_24 : decode cX0_reasonNotToPair 24 = .ok (.iconst 3, 1) := by decide +kernel
theorem dX0_reasonNotToPair_25 : decode cX0_reasonNotToPair 25 = .ok (.aaload, 1) := by decide +kernel
theorem dX0_reasonNotToPair_26 : decode cX0_reasonNotToPair 26 = .ok (.iload_n 2, 1) := by decide +kernel
theorem dX0_reasonNotToPair_27 : decode cX0_reasonNotToPair 27 = .ok (.iaload, 1) := by decide +kernel
theorem dX0_reasonNotToPair_28 : decode cX0_reasonNotToPair 28 = .ok (.iconst (-1), 1) := by decide +kernel
theorem dX0_reasonNotToPair_29 : decode cX0_reasonNotToPair 29 = .ok (.if_icmp .eq 7, 3) := by decide +kernel
theorem dX0_reasonNotToPair_32 : decode cX0_reasonNotToPair 32 = .ok (.iconst 1, 1) := by decide +kernel
theorem dX0_reasonNotToPair_33 : decode cX0_reasonNotToPair 33 = .ok (.goto 4, 3) := by decide +kernel
theorem dX0_reasonNotToPair_36 : decode cX0_reasonNotToPair 36 = .ok (.iconst 0, 1) := by decide +kernel
theorem dX0_reasonNotToPair_37 : decode cX0_reasonNotToPair 37 = .ok (.istore_n 3, 1) := by decide +kernel
theorem dX0_reasonNotToPair_38 : decode cX0_reasonNotToPair 38 = .ok (.iload_n 3, 1) := by decide +kernel
theorem dX0_reasonNotToPair_39 : decode cX0_reasonNotToPair 39 = .ok (.ifCond .eq 8, 3) := by decide +kernel
theorem dX0_reasonNotToPair_42 : decode cX0_reasonNotToPair 42 = .ok (.bipush 9, 2) := by decide +kernel
theorem dX0_reasonNotToPair_44 : decode cX0_reasonNotToPair 44 = .ok (.goto 4, 3) := by decide +kernel
theorem dX0_reasonNotToPair_47 : decode cX0_reasonNotToPair 47 = .ok (.iconst 0, 1) := by decide +kernel
theorem dX0_reasonNotToPair_48 : decode cX0_reasonNotToPair 48 = .ok (.ireturn, 1) := by decide +kernel
set_option maxRecDepth 20000 in
theorem ggX0_addDove_X0_exists : GoodIn wsX0_addDove wsX0_exists := goodIn_r _ [7, 1, 8, 9, 10, 11, 12, 13, 14, 15, 16, 17] (by decide +kernel) (by decide +kernel)
set_option maxRecDepth 20000 in
theorem gX0_addDove_X0_exists : GoodIn wsX0_addDove (wsV RX0 86 RX0 yX0_exists wsX0_exists) := goodIn_app (goodIn_of _ (by decide +kernel)) ggX0_addDove_X0_exists
theorem dX0_addDove_0 : decode cX0_addDove 0 = .ok (.iconst 0, 1) := by decide +kernel
theorem dX0_addDove_1 : decode cX0_addDove 1 = .ok (.istore_n 3, 1) := by decide +kernel
theorem dX0_addDove_2 : decode cX0_addDove 2 = .ok (.iload_n 3, 1) := by decide +kernel
theorem dX0_addDove_3 : decode cX0_addDove 3 = .ok (.bipush 16, 2) := by decide +kernel
theorem dX0_addDove_5 : decode cX0_addDove 5 = .ok (.if_icmp .ge 46, 3) := by decide +kernel
theorem dX0_addDove_8 : decode cX0_addDove 8 = .ok (.aload_n 0, 1) := by decide +kernel
theorem dX0_addDove_9 : decode cX0_addDove 9 = .ok (.iload_n 3, 1) := by decide +kernel
theorem dX0_addDove_10 : decode cX0_addDove 10 = .ok (.invokevirtual 86, 3) := by decide +kernel
theorem dX0_addDove_13 : decode cX0_addDove 13 = .ok (.ifCond .ne 32, 3) := by decide +kernel
theorem dX0_addDove_16 : decode cX0_addDove 16 = .ok (.aload_n 0, 1) := by decide +kernel
theorem dX0_addDove_17 : decode cX0_addDove 17 = .ok (.getfield 11, 3) := by decide +kernel
theorem dX0_addDove_20 : decode cX0_addDove 20 = .ok (.iconst 0, 1) := by decide +kernel
theorem dX0_addDove_21 : decode cX0_addDove 21 = .ok (.aaload, 1) := by decide +kernel
theorem dX0_addDove_22 : decode cX0_addDove 22 = .ok (.iload_n 3, 1) := by decide +kernel
theorem dX0_addDove_23 : decode cX0_addDove 23 = .ok (.iload_n 1, 1) := by decide +kernel
theorem dX0_addDove_24 : decode cX0_addDove 24 = .ok (.iastore, 1) := by decide +kernel
theorem dX0_addDove_25 : decode cX0_addDove 25 = .ok (.aload_n 0, 1) := by decide +kernel
theorem dX0_addDove_26 : decode cX0_addDove 26 = .ok (.getfield 11, 3) := by decide +kernel
theorem dX0_addDove_29 : decode cX0_addDove 29 = .ok (.iconst 1, 1) := by decide +kernel
theorem dX0_addDove_30 : decode cX0_addDove 30 = .ok (.aaload, 1) := by decide +kernel
theorem dX0_addDove_31 : decode cX0_addDove 31 = .ok (.iload_n 3, 1) := by decide +kernel
theorem dX0_addDove_32 : decode cX0_addDove 32 = .ok (.iload_n 2, 1) := by decide +kernel
theorem dX0_addDove_33 : decode cX0_addDove 33 = .ok (.iastore, 1) := by decide +kernel
theorem dX0_addDove_34 : decode cX0_addDove 34 = .ok (.aload_n 0, 1) := by decide +kernel
theorem dX0_addDove_35 : decode cX0_addDove 35 = .ok (.getfield 16, 3) := by decide +kernel
theorem dX0_addDove_38 : decode cX0_addDove 38 = .ok (.iconst 1, 1) := by decide +kernel
theorem dX0_addDove_39 : decode cX0_addDove 39 = .ok (.aaload, 1) := by decide +kernel
theorem dX0_addDove_40 : decode cX0_addDove 40 = .ok (.iload_n 1, 1) := by decide +kernel
theorem dX0_addDove_41 : decode cX0_addDove 41 = .ok (.iload_n 3, 1) := by decide +kernel
theorem dX0_addDove_42 : decode cX0_addDove 42 = .ok (.iastore, 1) := by decide +kernel
theorem dX0_addDove_43 : decode cX0_addDove 43 = .ok (.iload_n 3, 1) := by decide +kernel
theorem dX0_addDove_44 : decode cX0_addDove 44 = .ok (.ireturn, 1) := by decide +kernel
theorem dX0_addDove_45 : decode cX0_addDove 45 = .ok (.iinc 3 1, 3) := by decide +kernel
theorem dX0_addDove_48 : decode cX0_addDove 48 = .ok (.goto (-46), 3) := by decide +kernel
theorem dX0_addDove_51 : decode cX0_addDove 51 = .ok (.iconst (-1), 1) := by decide +kernel
theorem dX0_addDove_52 : decode cX0_addDove 52 = .ok (.ireturn, 1) := by decide +kernel
set_option maxRecDepth 20000 in
theorem ggX0_removeDove_X3_isHole : GoodIn wsX0_removeDove wsX3_isHole := goodIn_r _ [5] (by decide +kernel) (by decide +kernel)
set_option maxRecDepth 20000 in
theorem gX0_removeDove_X3_isHole_n59 : GoodIn wsX0_removeDove (wsX3_isHole) := ggX0_removeDove_X3_isHole
set_option maxRecDepth 20000 in
theorem ggX0_removeDove_X0_exists : GoodIn wsX0_removeDove wsX0_exists := goodIn_r _ [10, 1, 11, 12, 13, 14, 15, 16, 17, 18, 19, 20] (by decide +kernel) (by decide +kernel)
set_option maxRecDepth 20000 in
theorem gX0_removeDove_X0_exists : GoodIn wsX0_removeDove (wsV RX0 86 RX0 yX0_exists wsX0_exists) := goodIn_app (goodIn_of _ (by decide +kernel)) ggX0_removeDove_X0_exists
theorem dX0_removeDove_0 : decode cX0_removeDove 0 = .ok (.aload_n 0, 1) := by decide +kernel
theorem dX0_removeDove_1 : decode cX0_removeDove 1 = .ok (.getfield 11, 3) := by decide +kernel
theorem dX0_removeDove_4 : decode cX0_removeDove 4 = .ok (.iconst 0, 1) := by decide +kernel
theorem dX0_removeDove_5 : decode cX0_removeDove 5 = .ok (.aaload, 1) := by decide +kernel
theorem dX0_removeDove_6 : decode cX0_removeDove 6 = .ok (.iload_n 1, 1) := by decide +kernel
theorem dX0_removeDove_7 : decode cX0_removeDove 7 = .ok (.iaload, 1) := by decide +kernel
theorem dX0_removeDove_8 : decode cX0_removeDove 8 = .ok (.istore_n 2, 1) := by decide +kernel
theorem dX0_removeDove_9 : decode cX0_removeDove 9 = .ok (.aload_n 0, 1) := by decide +kernel
theorem dX0_removeDove_10 : decode cX0_removeDove 10 = .ok (.getfield 11, 3) := by decide +kernel
theorem dX0_removeDove_13 : decode cX0_removeDove 13 = .ok (.iconst 2, 1) := by decide +kernel
theorem dX0_removeDove_14 : decode cX0_removeDove 14 = .ok (.aaload, 1) := by decide +kernel
theorem dX0_removeDove_15 : decode cX0_removeDove 15 = .ok (.iload_n 1, 1) := by decide +kernel
theorem dX0_removeDove_16 : decode cX0_removeDove 16 = .ok (.iaload, 1) := by decide +kernel
theorem dX0_removeDove_17 : decode cX0_removeDove 17 = .ok (.istore_n 3, 1) := by decide +kernel
theorem dX0_removeDove_18 : decode cX0_removeDove 18 = .ok (.aload_n 0, 1) := by decide +kernel
theorem dX0_removeDove_19 : decode cX0_removeDove 19 = .ok (.getfield 11, 3) := by decide +kernel
theorem dX0_removeDove_22 : decode cX0_removeDove 22 = .ok (.iconst 3, 1) := by decide +kernel
theorem dX0_removeDove_23 : decode cX0_removeDove 23 = .ok (.aaload, 1) := by decide +kernel
theorem dX0_removeDove_24 : decode cX0_removeDove 24 = .ok (.iload_n 1, 1) := by decide +kernel
theorem dX0_removeDove_25 : decode cX0_removeDove 25 = .ok (.iaload, 1) := by decide +kernel
theorem dX0_removeDove_26 : decode cX0_removeDove 26 = .ok (.istore 4, 2) := by decide +kernel
theorem dX0_removeDove_28 : decode cX0_removeDove 28 = .ok (.iload_n 2, 1) := by decide +kernel
theorem dX0_removeDove_29 : decode cX0_removeDove 29 = .ok (.invokestatic 59, 3) := by decide +kernel
theorem dX0_removeDove_32 : decode cX0_removeDove 32 = .ok (.ifCond .eq 12, 3) := by decide +kernel
theorem dX0_removeDove_35 : decode cX0_removeDove 35 = .ok (.aload_n 0, 1) := by decide +kernel
theorem dX0_removeDove_36 : decode cX0_removeDove 36 = .ok (.getfield 16, 3) := by decide +kernel
theorem dX0_removeDove_39 : decode cX0_removeDove 39 = .ok (.iconst 1, 1) := by decide +kernel
theorem dX0_removeDove_40 : decode cX0_removeDove 40 = .ok (.aaload, 1) := by decide +kernel
theorem dX0_removeDove_41 : decode cX0_removeDove 41 = .ok (.iload_n 2, 1) := by decide +kernel
theorem dX0_removeDove_42 : decode cX0_removeDove 42 = .ok (.iconst (-1), 1) := by decide +kernel
theorem dX0_removeDove_43 : decode cX0_removeDove 43 = .ok (.iastore, 1) := by decide +kernel
theorem dX0_removeDove_44 : decode cX0_removeDove 44 = .ok (.iload_n 3, 1) := by decide +kernel
theorem dX0_removeDove_45 : decode cX0_removeDove 45 = .ok (.invokestatic 59, 3) := by decide +kernel
theorem dX0_removeDove_48 : decode cX0_removeDove 48 = .ok (.ifCond .eq 12, 3) := by decide +kernel
theorem dX0_removeDove_51 : decode cX0_removeDove 51 = .ok (.aload_n 0, 1) := by decide +kernel
theorem dX0_removeDove_52 : decode cX0_removeDove 52 = .ok (.getfield 16, 3) := by decide +kernel
theorem dX0_removeDove_55 : decode cX0_removeDove 55 = .ok (.iconst 0, 1) := by decide +kernel
theorem dX0_removeDove_56 : decode cX0_removeDove 56 = .ok (.aaload, 1) := by decide +kernel
theorem dX0_removeDove_57 : decode cX0_removeDove 57 = .ok (.iload_n 3, 1) := by decide +kernel
theorem dX0_removeDove_58 : decode cX0_removeDove 58 = .ok (.iconst (-1), 1) := by decide +kernel
theorem dX0_removeDove_59 : decode cX0_removeDove 59 = .ok (.iastore, 1) := by decide +kernel
theorem dX0_removeDove_60 : decode cX0_removeDove 60 = .ok (.aload_n 0, 1) := by decide +kernel
theorem dX0_removeDove_61 : decode cX0_removeDove 61 = .ok (.iload 4, 2) := by decide +kernel
theorem dX0_removeDove_63 : decode cX0_removeDove 63 = .ok (.invokevirtual 86, 3) := by decide +kernel
theorem dX0_removeDove_66 : decode cX0_removeDove 66 = .ok (.ifCond .eq 13, 3) := by decide +kernel
theorem dX0_removeDove_69 : decode cX0_removeDove 69 = .ok (.aload_n 0, 1) := by decide +kernel
theorem dX0_removeDove_70 : decode cX0_removeDove 70 = .ok (.getfield 11, 3) := by decide +kernel
theorem dX0_removeDove_73 : decode cX0_removeDove 73 = .ok (.iconst 3, 1) := by decide +kernel
theorem dX0_removeDove_74 : decode cX0_removeDove 74 = .ok (.aaload, 1) := by decide +kernel
theorem dX0_removeDove_75 : decode cX0_removeDove 75 = .ok (.iload 4, 2) := by decide +kernel
theorem dX0_removeDove_77 : decode cX0_removeDove 77 = .ok (.iconst (-1), 1) := by decide +kernel
theorem dX0_removeDove_78 : decode cX0_removeDove 78 = .ok (.iastore, 1) := by decide +kernel
theorem dX0_removeDove_79 : decode cX0_removeDove 79 = .ok (.iconst 0, 1) := by decide +kernel
theorem dX0_removeDove_80 : decode cX0_removeDove 80 = .ok (.istore 5, 2) := by decide +kernel
theorem dX0_removeDove_82 : decode cX0_removeDove 82 = .ok (.iload 5, 2) := by decide +kernel
theorem dX0_removeDove_84 : decode cX0_removeDove 84 = .ok (.bipush 8, 2) := by decide +kernel
theorem dX0_removeDove_86 : decode cX0_removeDove 86 = .ok (.if_icmp .ge 19, 3) := by decide +kernel
theorem dX0_removeDove_89 : decode cX0_removeDove 89 = .ok (.aload_n 0, 1) := by decide +kernel
theorem dX0_removeDove_90 : decode cX0_removeDove 90 = .ok (.getfield 11, 3) := by decide +kernel
theorem dX0_removeDove_93 : decode cX0_removeDove 93 = .ok (.iload 5, 2) := by decide +kernel
theorem dX0_removeDove_95 : decode cX0_removeDove 95 = .ok (.aaload, 1) := by decide +kernel
theorem dX0_removeDove_96 : decode cX0_removeDove 96 = .ok (.iload_n 1, 1) := by decide +kernel
theorem dX0_removeDove_97 : decode cX0_removeDove 97 = .ok (.iconst 0, 1) := by decide +kernel
theorem dX0_removeDove_98 : decode cX0_removeDove 98 = .ok (.iastore, 1) := by decide +kernel
theorem dX0_removeDove_99 : decode cX0_removeDove 99 = .ok (.iinc 5 1, 3) := by decide +kernel
theorem dX0_removeDove_102 : decode cX0_removeDove 102 = .ok (.goto (-20), 3) := by decide +kernel
theorem dX0_removeDove_105 : decode cX0_removeDove 105 = .ok (.aload_n 0, 1) := by decide +kernel
theorem dX0_removeDove_106 : decode cX0_removeDove 106 = .ok (.getfield 11, 3) := by decide +kernel
theorem dX0_removeDove_109 : decode cX0_removeDove 109 = .ok (.iconst 0, 1) := by decide +kernel
theorem dX0_removeDove_110 : decode cX0_removeDove 110 = .ok (.aaload, 1) := by decide +kernel
theorem dX0_removeDove_111 : decode cX0_removeDove 111 = .ok (.iload_n 1, 1) := by decide +kernel
theorem dX0_removeDove_112 : decode cX0_removeDove 112 = .ok (.iconst (-1), 1) := by decide +kernel
theorem dX0_removeDove_113 : decode cX0_removeDove 113 = .ok (.iastore, 1) := by decide +kernel
theorem dX0_removeDove_114 : decode cX0_removeDove 114 = .ok (.aload_n 0, 1) := by decide +kernel
theorem dX0_removeDove_115 : decode cX0_removeDove 115 = .ok (.getfield 11, 3) := by decide +kernel
theorem dX0_removeDove_118 : decode cX0_removeDove 118 = .ok (.iconst 2, 1) := by decide +kernel
theorem dX0_removeDove_119 : decode cX0_removeDove 119 = .ok (.aaload, 1) := by decide +kernel
theorem dX0_removeDove_120 : decode cX0_removeDove 120 = .ok (.iload_n 1, 1) := by decide +kernel
theorem dX0_removeDove_121 : decode cX0_removeDove 121 = .ok (.iconst (-1), 1) := by decide +kernel
theorem dX0_removeDove_122 : decode cX0_removeDove 122 = .ok (.iastore, 1) := by decide +kernel
theorem dX0_removeDove_123 : decode cX0_removeDove 123 = .ok (.aload_n 0, 1) := by decide +kernel
theorem dX0_removeDove_124 : decode cX0_removeDove 124 = .ok (.getfield 11, 3) := by decide +kernel
theorem dX0_removeDove_127 : decode cX0_removeDove 127 = .ok (.iconst 3, 1) := by decide +kernel
theorem dX0_removeDove_128 : decode cX0_removeDove 128 = .ok (.aaload, 1) := by decide +kernel
theorem dX0_removeDove_129 : decode cX0_removeDove 129 = .ok (.iload_n 1, 1) := by decide +kernel
theorem dX0_removeDove_130 : decode cX0_removeDove 130 = .ok (.iconst (-1), 1) := by decide +kernel
theorem dX0_removeDove_131 : decode cX0_removeDove 131 = .ok (.iastore, 1) := by decide +kernel
theorem dX0_removeDove_132 : decode cX0_removeDove 132 = .ok (.iload_n 3, 1) := by decide +kernel
theorem dX0_removeDove_133 : decode cX0_removeDove 133 = .ok (.ireturn, 1) := by decide +kernel
theorem dX0_pair_0 : decode cX0_pair 0 = .ok (.aload_n 0, 1) := by decide +kernel
theorem dX0_pair_1 : decode cX0_pair 1 = .ok (.getfield 11, 3) := by decide +kernel
theorem dX0_pair_4 : decode cX0_pair 4 = .ok (.iconst 3, 1) := by decide +kernel
theorem dX0_pair_5 : decode cX0_pair 5 = .ok (.aaload, 1) := by decide +kernel
theorem dX0_pair_6 : decode cX0_pair 6 = .ok (.iload_n 1, 1) := by decide +kernel
theorem dX0_pair_7 : decode cX0_pair 7 = .ok (.iload_n 2, 1) := by decide +kernel
theorem dX0_pair_8 : decode cX0_pair 8 = .ok (.iastore, 1) := by decide +kernel
theorem dX0_pair_9 : decode cX0_pair 9 = .ok (.aload_n 0, 1) := by decide +kernel
theorem dX0_pair_10 : decode cX0_pair 10 = .ok (.getfield 11, 3) := by decide +kernel
theorem dX0_pair_13 : decode cX0_pair 13 = .ok (.iconst 3, 1) := by decide +kernel
theorem dX0_pair_14 : decode cX0_pair 14 = .ok (.aaload, 1) := by decide +kernel
theorem dX0_pair_15 : decode cX0_pair 15 = .ok (.iload_n 2, 1) := by decide +kernel
theorem dX0_pair_16 : decode cX0_pair 16 = .ok (.iload_n 1, 1) := by decide +kernel
theorem dX0_pair_17 : decode cX0_pair 17 = .ok (.iastore, 1) := by decide +kernel
theorem dX0_pair_18 : decode cX0_pair 18 = .ok (.return_, 1) := by decide +kernel
theorem dX0_setOpen_0 : decode cX0_setOpen 0 = .ok (.aload_n 0, 1) := by decide +kernel
theorem dX0_setOpen_1 : decode cX0_setOpen 1 = .ok (.getfield 16, 3) := by decide +kernel
theorem dX0_setOpen_4 : decode cX0_setOpen 4 = .ok (.iconst 2, 1) := by decide +kernel
theorem dX0_setOpen_5 : decode cX0_setOpen 5 = .ok (.aaload, 1) := by decide +kernel
theorem dX0_setOpen_6 : decode cX0_setOpen 6 = .ok (.iload_n 1, 1) := by decide +kernel
theorem dX0_setOpen_7 : decode cX0_setOpen 7 = .ok (.iload_n 2, 1) := by decide +kernel
theorem dX0_setOpen_8 : decode cX0_setOpen 8 = .ok (.iastore, 1) := by decide +kernel
theorem dX0_setOpen_9 : decode cX0_setOpen 9 = .ok (.return_, 1) := by decide +kernel
theorem dX0_noteStop_0 : decode cX0_noteStop 0 = .ok (.aload_n 0, 1) := by decide +kernel
theorem dX0_noteStop_1 : decode cX0_noteStop 1 = .ok (.getfield 26, 3) := by decide +kernel
theorem dX0_noteStop_4 : decode cX0_noteStop 4 = .ok (.iconst 0, 1) := by decide +kernel
theorem dX0_noteStop_5 : decode cX0_noteStop 5 = .ok (.iload_n 1, 1) := by decide +kernel
theorem dX0_noteStop_6 : decode cX0_noteStop 6 = .ok (.iastore, 1) := by decide +kernel
theorem dX0_noteStop_7 : decode cX0_noteStop 7 = .ok (.aload_n 0, 1) := by decide +kernel
theorem dX0_noteStop_8 : decode cX0_noteStop 8 = .ok (.getfield 26, 3) := by decide +kernel
theorem dX0_noteStop_11 : decode cX0_noteStop 11 = .ok (.iconst 1, 1) := by decide +kernel
theorem dX0_noteStop_12 : decode cX0_noteStop 12 = .ok (.iload_n 2, 1) := by decide +kernel
theorem dX0_noteStop_13 : decode cX0_noteStop 13 = .ok (.iastore, 1) := by decide +kernel
theorem dX0_noteStop_14 : decode cX0_noteStop 14 = .ok (.return_, 1) := by decide +kernel
set_option maxRecDepth 20000 in
theorem ggX0_comeHome_X0_isOpen : GoodIn wsX0_comeHome wsX0_isOpen := goodIn_r _ [10, 11, 12, 13, 14, 52, 53, 54, 55, 56, 57, 58, 59, 60, 61] (by decide +kernel) (by decide +kernel)
set_option maxRecDepth 20000 in
theorem gX0_comeHome_X0_isOpen : GoodIn wsX0_comeHome (wsV RX0 63 RX0 yX0_isOpen wsX0_isOpen) := goodIn_app (goodIn_of _ (by decide +kernel)) ggX0_comeHome_X0_isOpen
set_option maxRecDepth 20000 in
theorem ggX0_comeHome_X0_enterOwnHole : GoodIn wsX0_comeHome wsX0_enterOwnHole := goodIn_r _ [18, 5, 11, 19, 20, 21, 9, 22, 23, 24, 25, 26, 3, 27, 28, 29, 30, 31, 2, 12, 13, 14, 32, 33, 34, 35, 36, 37, 38, 39, 52, 53, 54, 55, 56, 57, 58, 59, 60, 61, 62, 63, 64] (by decide +kernel) (by decide +kernel)
set_option maxRecDepth 20000 in
theorem gX0_comeHome_X0_enterOwnHole : GoodIn wsX0_comeHome (wsV RX0 92 RX0 yX0_enterOwnHole wsX0_enterOwnHole) := goodIn_app (goodIn_of _ (by decide +kernel)) ggX0_comeHome_X0_enterOwnHole
set_option maxRecDepth 20000 in
theorem ggX0_comeHome_X0_exists : GoodIn wsX0_comeHome wsX0_exists := goodIn_r _ [22, 5, 52, 53, 54, 55, 56, 57, 58, 59, 60, 61] (by decide +kernel) (by decide +kernel)
set_option maxRecDepth 20000 in
theorem gX0_comeHome_X0_exists : GoodIn wsX0_comeHome (wsV RX0 86 RX0 yX0_exists wsX0_exists) := goodIn_app (goodIn_of _ (by decide +kernel)) ggX0_comeHome_X0_exists
set_option maxRecDepth 20000 in
theorem ggX0_comeHome_X0_settle : GoodIn wsX0_comeHome wsX0_settle := goodIn_r _ [43, 5, 11, 44, 45, 46, 9, 47, 19, 20, 21, 22, 12, 13, 14, 48, 49, 50, 51, 6, 7, 8, 10, 28, 29, 30, 31, 2, 32, 33, 34, 35, 36, 37, 38, 39, 23, 24, 25, 26, 3, 27, 52, 53, 54, 55, 56, 57, 58, 59, 60, 61, 62, 63, 64] (by decide +kernel) (by decide +kernel)
set_option maxRecDepth 20000 in
theorem gX0_comeHome_X0_settle : GoodIn wsX0_comeHome (wsV RX0 96 RX0 yX0_settle wsX0_settle) := goodIn_app (goodIn_of _ (by decide +kernel)) ggX0_comeHome_X0_settle
theorem dX0_comeHome_0 : decode cX0_comeHome 0 = .ok (.aload_n 0, 1) := by decide +kernel
theorem dX0_comeHome_1 : decode cX0_comeHome 1 = .ok (.iload_n 2, 1) := by decide +kernel
theorem dX0_comeHome_2 : decode cX0_comeHome 2 = .ok (.putfield 50, 3) := by decide +kernel
theorem dX0_comeHome_5 : decode cX0_comeHome 5 = .ok (.aload_n 0, 1) := by decide +kernel
theorem dX0_comeHome_6 : decode cX0_comeHome 6 = .ok (.getfield 32, 3) := by decide +kernel
theorem dX0_comeHome_9 : decode cX0_comeHome 9 = .ok (.iconst 0, 1) := by decide +kernel
theorem dX0_comeHome_10 : decode cX0_comeHome 10 = .ok (.putfield 89, 3) := by decide +kernel
theorem dX0_comeHome_13 : decode cX0_comeHome 13 = .ok (.aload_n 0, 1) := by decide +kernel
theorem dX0_comeHome_14 : decode cX0_comeHome 14 = .ok (.getfield 53, 3) := by decide +kernel
theorem dX0_comeHome_17 : decode cX0_comeHome 17 = .ok (.istore_n 3, 1) := by decide +kernel
theorem dX0_comeHome_18 : decode cX0_comeHome 18 = .ok (.aload_n 0, 1) := by decide +kernel
theorem dX0_comeHome_19 : decode cX0_comeHome 19 = .ok (.getfield 53, 3) := by decide +kernel
theorem dX0_comeHome_22 : decode cX0_comeHome 22 = .ok (.aload_n 0, 1) := by decide +kernel
theorem dX0_comeHome_23 : decode cX0_comeHome 23 = .ok (.getfield 19, 3) := by decide +kernel
theorem dX0_comeHome_26 : decode cX0_comeHome 26 = .ok (.iconst 1, 1) := by decide +kernel
theorem dX0_comeHome_27 : decode cX0_comeHome 27 = .ok (.iaload, 1) := by decide +kernel
theorem dX0_comeHome_28 : decode cX0_comeHome 28 = .ok (.iadd, 1) := by decide +kernel
theorem dX0_comeHome_29 : decode cX0_comeHome 29 = .ok (.istore 4, 2) := by decide +kernel
theorem dX0_comeHome_31 : decode cX0_comeHome 31 = .ok (.iload_n 2, 1) := by decide +kernel
theorem dX0_comeHome_32 : decode cX0_comeHome 32 = .ok (.aload_n 0, 1) := by decide +kernel
theorem dX0_comeHome_33 : decode cX0_comeHome 33 = .ok (.getfield 19, 3) := by decide +kernel
theorem dX0_comeHome_36 : decode cX0_comeHome 36 = .ok (.iconst 0, 1) := by decide +kernel
theorem dX0_comeHome_37 : decode cX0_comeHome 37 = .ok (.iaload, 1) := by decide +kernel
theorem dX0_comeHome_38 : decode cX0_comeHome 38 = .ok (.if_icmp .le 7, 3) := by decide +kernel
theorem dX0_comeHome_41 : decode cX0_comeHome 41 = .ok (.iconst 1, 1) := by decide +kernel
theorem dX0_comeHome_42 : decode cX0_comeHome 42 = .ok (.goto 4, 3) := by decide +kernel
theorem dX0_comeHome_45 : decode cX0_comeHome 45 = .ok (.iconst 0, 1) := by decide +kernel
theorem dX0_comeHome_46 : decode cX0_comeHome 46 = .ok (.istore 5, 2) := by decide +kernel
theorem dX0_comeHome_48 : decode cX0_comeHome 48 = .ok (.iload 5, 2) := by decide +kernel
theorem dX0_comeHome_50 : decode cX0_comeHome 50 = .ok (.ifCond .eq 15, 3) := by decide +kernel
theorem dX0_comeHome_53 : decode cX0_comeHome 53 = .ok (.aload_n 0, 1) := by decide +kernel
theorem dX0_comeHome_54 : decode cX0_comeHome 54 = .ok (.getfield 11, 3) := by decide +kernel
theorem dX0_comeHome_57 : decode cX0_comeHome 57 = .ok (.iconst 4, 1) := by decide +kernel
theorem dX0_comeHome_58 : decode cX0_comeHome 58 = .ok (.aaload, 1) := by decide +kernel
theorem dX0_comeHome_59 : decode cX0_comeHome 59 = .ok (.iload_n 1, 1) := by decide +kernel
theorem dX0_comeHome_60 : decode cX0_comeHome 60 = .ok (.dup2, 1) := by decide +kernel
theorem dX0_comeHome_61 : decode cX0_comeHome 61 = .ok (.iaload, 1) := by decide +kernel
theorem dX0_comeHome_62 : decode cX0_comeHome 62 = .ok (.iconst 1, 1) := by decide +kernel
theorem dX0_comeHome_63 : decode cX0_comeHome 63 = .ok (.iadd, 1) := by decide +kernel
theorem dX0_comeHome_64 : decode cX0_comeHome 64 = .ok (.iastore, 1) := by decide +kernel
theorem dX0_comeHome_65 : decode cX0_comeHome 65 = .ok (.iload_n 1, 1) := by decide +kernel
theorem dX0_comeHome_66 : decode cX0_comeHome 66 = .ok (.istore 6, 2) := by decide +kernel
theorem dX0_comeHome_68 : decode cX0_comeHome 68 = .ok (.iload 5, 2) := by decide +kernel
theorem dX0_comeHome_70 : decode cX0_comeHome 70 = .ok (.ifCond .ne 39, 3) := by decide +kernel
theorem dX0_comeHome_73 : decode cX0_comeHome 73 = .ok (.aload_n 0, 1) := by decide +kernel
theorem dX0_comeHome_74 : decode cX0_comeHome 74 = .ok (.aload_n 0, 1) := by decide +kernel
theorem dX0_comeHome_75 : decode cX0_comeHome 75 = .ok (.getfield 11, 3) := by decide +kernel
theorem dX0_comeHome_78 : decode cX0_comeHome 78 = .ok (.iconst 0, 1) := by decide +kernel
theorem dX0_comeHome_79 : decode cX0_comeHome 79 = .ok (.aaload, 1) := by decide +kernel
theorem dX0_comeHome_80 : decode cX0_comeHome 80 = .ok (.iload_n 1, 1) := by decide +kernel
theorem dX0_comeHome_81 : decode cX0_comeHome 81 = .ok (.iaload, 1) := by decide +kernel
theorem dX0_comeHome_82 : decode cX0_comeHome 82 = .ok (.invokevirtual 63, 3) := by decide +kernel
theorem dX0_comeHome_85 : decode cX0_comeHome 85 = .ok (.ifCond .eq 24, 3) := by decide +kernel
theorem dX0_comeHome_88 : decode cX0_comeHome 88 = .ok (.aload_n 0, 1) := by decide +kernel
theorem dX0_comeHome_89 : decode cX0_comeHome 89 = .ok (.iload_n 1, 1) := by decide +kernel
theorem dX0_comeHome_90 : decode cX0_comeHome 90 = .ok (.aload_n 0, 1) := by decide +kernel
theorem dX0_comeHome_91 : decode cX0_comeHome 91 = .ok (.getfield 53, 3) := by decide +kernel
theorem dX0_comeHome_94 : decode cX0_comeHome 94 = .ok (.iload 4, 2) := by decide +kernel
theorem dX0_comeHome_96 : decode cX0_comeHome 96 = .ok (.if_icmp .ge 7, 3) := by decide +kernel
theorem dX0_comeHome_99 : decode cX0_comeHome 99 = .ok (.iconst 1, 1) := by decide +kernel
theorem dX0_comeHome_100 : decode cX0_comeHome 100 = .ok (.goto 4, 3) := by decide +kernel
theorem dX0_comeHome_103 : decode cX0_comeHome 103 = .ok (.iconst 0, 1) := by decide +kernel
theorem dX0_comeHome_104 : decode cX0_comeHome 104 = .ok (.invokevirtual 92, 3) := by decide +kernel
theorem dX0_comeHome_107 : decode cX0_comeHome 107 = .ok (.istore 6, 2) := by decide +kernel
theorem dX0_comeHome_109 : decode cX0_comeHome 109 = .ok (.iconst 0, 1) := by decide +kernel
theorem dX0_comeHome_110 : decode cX0_comeHome 110 = .ok (.istore 7, 2) := by decide +kernel
theorem dX0_comeHome_112 : decode cX0_comeHome 112 = .ok (.iload 7, 2) := by decide +kernel
theorem dX0_comeHome_114 : decode cX0_comeHome 114 = .ok (.bipush 24, 2) := by decide +kernel
theorem dX0_comeHome_116 : decode cX0_comeHome 116 = .ok (.if_icmp .gt 40, 3) := by decide +kernel
theorem dX0_comeHome_119 : decode cX0_comeHome 119 = .ok (.aload_n 0, 1) := by decide +kernel
theorem dX0_comeHome_120 : decode cX0_comeHome 120 = .ok (.iload 6, 2) := by decide +kernel
theorem dX0_comeHome_122 : decode cX0_comeHome 122 = .ok (.invokevirtual 86, 3) := by decide +kernel
theorem dX0_comeHome_125 : decode cX0_comeHome 125 = .ok (.ifCond .eq 31, 3) := by decide +kernel
theorem dX0_comeHome_128 : decode cX0_comeHome 128 = .ok (.aload_n 0, 1) := by decide +kernel
theorem dX0_comeHome_129 : decode cX0_comeHome 129 = .ok (.iload 6, 2) := by decide +kernel
theorem dX0_comeHome_131 : decode cX0_comeHome 131 = .ok (.aload_n 0, 1) := by decide +kernel
theorem dX0_comeHome_132 : decode cX0_comeHome 132 = .ok (.getfield 53, 3) := by decide +kernel
theorem dX0_comeHome_135 : decode cX0_comeHome 135 = .ok (.iload 4, 2) := by decide +kernel
theorem dX0_comeHome_137 : decode cX0_comeHome 137 = .ok (.if_icmp .ge 7, 3) := by decide +kernel
theorem dX0_comeHome_140 : decode cX0_comeHome 140 = .ok (.iconst 1, 1) := by decide +kernel
theorem dX0_comeHome_141 : decode cX0_comeHome 141 = .ok (.goto 4, 3) := by decide +kernel
theorem dX0_comeHome_144 : decode cX0_comeHome 144 = .ok (.iconst 0, 1) := by decide +kernel
theorem dX0_comeHome_145 : decode cX0_comeHome 145 = .ok (.invokevirtual 96, 3) := by decide +kernel
theorem dX0_comeHome_148 : decode cX0_comeHome 148 = .ok (.istore 6, 2) := by decide +kernel
theorem dX0_comeHome_150 : decode cX0_comeHome 150 = .ok (.iinc 7 1, 3) := by decide +kernel
theorem dX0_comeHome_153 : decode cX0_comeHome 153 = .ok (.goto (-41), 3) := by decide +kernel
theorem dX0_comeHome_156 : decode cX0_comeHome 156 = .ok (.aload_n 0, 1) := by decide +kernel
theorem dX0_comeHome_157 : decode cX0_comeHome 157 = .ok (.getfield 53, 3) := by decide +kernel
theorem dX0_comeHome_160 : decode cX0_comeHome 160 = .ok (.iload_n 3, 1) := by decide +kernel
theorem dX0_comeHome_161 : decode cX0_comeHome 161 = .ok (.isub, 1) := by decide +kernel
theorem dX0_comeHome_162 : decode cX0_comeHome 162 = .ok (.ireturn, 1) := by decide +kernel
set_option maxRecDepth 20000 in
theorem ggX0_enterOwnHole_X0_exists : GoodIn wsX0_enterOwnHole wsX0_exists := goodIn_r _ [7, 1, 30, 31, 32, 33, 34, 35, 36, 37, 38, 39] (by decide +kernel) (by decide +kernel)
set_option maxRecDepth 20000 in
theorem gX0_enterOwnHole_X0_exists : GoodIn wsX0_enterOwnHole (wsV RX0 86 RX0 yX0_exists wsX0_exists) := goodIn_app (goodIn_of _ (by decide +kernel)) ggX0_enterOwnHole_X0_exists
set_option maxRecDepth 20000 in
theorem ggX0_enterOwnHole_X0_shiftFrom : GoodIn wsX0_enterOwnHole wsX0_shiftFrom := goodIn_r _ [11, 2, 12, 1, 13, 14, 15, 16, 6, 17, 18, 19, 20, 21, 22, 23, 24, 25, 26, 27, 28, 29, 30, 31, 32, 33, 34, 35, 36, 37, 38, 39, 40, 41, 42] (by decide +kernel) (by decide +kernel)
set_option maxRecDepth 20000 in
theorem gX0_enterOwnHole_X0_shiftFrom : GoodIn wsX0_enterOwnHole (wsV RX0 99 RX0 yX0_shiftFrom wsX0_shiftFrom) := goodIn_app (goodIn_of _ (by decide +kernel)) ggX0_enterOwnHole_X0_shiftFrom
set_option maxRecDepth 20000 in
theorem ggX0_enterOwnHole_X0_sit : GoodIn wsX0_enterOwnHole wsX0_sit := goodIn_r _ [17, 1, 2, 18, 19, 20, 21, 22, 23, 24, 25, 26, 27, 28, 29, 30, 31, 32, 33, 34, 35, 36, 37, 38, 39, 40, 41, 42] (by decide +kernel) (by decide +kernel)
set_option maxRecDepth 20000 in
theorem gX0_enterOwnHole_X0_sit : GoodIn wsX0_enterOwnHole (wsV RX0 103 RX0 yX0_sit wsX0_sit) := goodIn_app (goodIn_of _ (by decide +kernel)) ggX0_enterOwnHole_X0_sit
theorem dX0_enterOwnHole_0 : decode cX0_enterOwnHole 0 = .ok (.aload_n 0, 1) := by decide +kernel
theorem dX0_enterOwnHole_1 : decode cX0_enterOwnHole 1 = .ok (.getfield 11, 3) := by decide +kernel
theorem dX0_enterOwnHole_4 : decode cX0_enterOwnHole 4 = .ok (.iconst 0, 1) := by decide +kernel
theorem dX0_enterOwnHole_5 : decode cX0_enterOwnHole 5 = .ok (.aaload, 1) := by decide +kernel
theorem dX0_enterOwnHole_6 : decode cX0_enterOwnHole 6 = .ok (.iload_n 1, 1) := by decide +kernel
theorem dX0_enterOwnHole_7 : decode cX0_enterOwnHole 7 = .ok (.iaload, 1) := by decide +kernel
theorem dX0_enterOwnHole_8 : decode cX0_enterOwnHole 8 = .ok (.istore_n 3, 1) := by decide +kernel
theorem dX0_enterOwnHole_9 : decode cX0_enterOwnHole 9 = .ok (.aload_n 0, 1) := by decide +kernel
theorem dX0_enterOwnHole_10 : decode cX0_enterOwnHole 10 = .ok (.getfield 16, 3) := by decide +kernel
theorem dX0_enterOwnHole_13 : decode cX0_enterOwnHole 13 = .ok (.iconst 0, 1) := by decide +kernel
theorem dX0_enterOwnHole_14 : decode cX0_enterOwnHole 14 = .ok (.aaload, 1) := by decide +kernel
theorem dX0_enterOwnHole_15 : decode cX0_enterOwnHole 15 = .ok (.iload_n 3, 1) := by decide +kernel
theorem dX0_enterOwnHole_16 : decode cX0_enterOwnHole 16 = .ok (.iaload, 1) := by decide +kernel
theorem dX0_enterOwnHole_17 : decode cX0_enterOwnHole 17 = .ok (.istore 4, 2) := by decide +kernel
theorem dX0_enterOwnHole_19 : decode cX0_enterOwnHole 19 = .ok (.aload_n 0, 1) := by decide +kernel
theorem dX0_enterOwnHole_20 : decode cX0_enterOwnHole 20 = .ok (.iload 4, 2) := by decide +kernel
theorem dX0_enterOwnHole_22 : decode cX0_enterOwnHole 22 = .ok (.invokevirtual 86, 3) := by decide +kernel
theorem dX0_enterOwnHole_25 : decode cX0_enterOwnHole 25 = .ok (.ifCond .eq 25, 3) := by decide +kernel
theorem dX0_enterOwnHole_28 : decode cX0_enterOwnHole 28 = .ok (.iload_n 2, 1) := by decide +kernel
theorem dX0_enterOwnHole_29 : decode cX0_enterOwnHole 29 = .ok (.ifCond .eq 10, 3) := by decide +kernel
theorem dX0_enterOwnHole_32 : decode cX0_enterOwnHole 32 = .ok (.aload_n 0, 1) := by decide +kernel
theorem dX0_enterOwnHole_33 : decode cX0_enterOwnHole 33 = .ok (.iload_n 3, 1) := by decide +kernel
theorem dX0_enterOwnHole_34 : decode cX0_enterOwnHole 34 = .ok (.iload_n 1, 1) := by decide +kernel
theorem dX0_enterOwnHole_35 : decode cX0_enterOwnHole 35 = .ok (.invokevirtual 99, 3) := by decide +kernel
theorem dX0_enterOwnHole_38 : decode cX0_enterOwnHole 38 = .ok (.ireturn, 1) := by decide +kernel
theorem dX0_enterOwnHole_39 : decode cX0_enterOwnHole 39 = .ok (.aload_n 0, 1) := by decide +kernel
theorem dX0_enterOwnHole_40 : decode cX0_enterOwnHole 40 = .ok (.getfield 11, 3) := by decide +kernel
theorem dX0_enterOwnHole_43 : decode cX0_enterOwnHole 43 = .ok (.iconst 2, 1) := by decide +kernel
theorem dX0_enterOwnHole_44 : decode cX0_enterOwnHole 44 = .ok (.aaload, 1) := by decide +kernel
theorem dX0_enterOwnHole_45 : decode cX0_enterOwnHole 45 = .ok (.iload 4, 2) := by decide +kernel
theorem dX0_enterOwnHole_47 : decode cX0_enterOwnHole 47 = .ok (.bipush 24, 2) := by decide +kernel
theorem dX0_enterOwnHole_49 : decode cX0_enterOwnHole 49 = .ok (.iastore, 1) := by decide +kernel
theorem dX0_enterOwnHole_50 : decode cX0_enterOwnHole 50 = .ok (.aload_n 0, 1) := by decide +kernel
theorem dX0_enterOwnHole_51 : decode cX0_enterOwnHole 51 = .ok (.iload_n 1, 1) := by decide +kernel
theorem dX0_enterOwnHole_52 : decode cX0_enterOwnHole 52 = .ok (.iload_n 3, 1) := by decide +kernel
theorem dX0_enterOwnHole_53 : decode cX0_enterOwnHole 53 = .ok (.invokevirtual 103, 3) := by decide +kernel
theorem dX0_enterOwnHole_56 : decode cX0_enterOwnHole 56 = .ok (.iconst (-1), 1) := by decide +kernel
theorem dX0_enterOwnHole_57 : decode cX0_enterOwnHole 57 = .ok (.ireturn, 1) := by decide +kernel
set_option maxRecDepth 20000 in
theorem ggX0_settle_X0_firstFreeFor : GoodIn wsX0_settle wsX0_firstFreeFor := goodIn_r _ [7, 1, 8, 9, 10, 6, 11, 12, 13, 14, 15, 16, 17, 18, 2, 19, 20, 21, 22, 42, 43, 44, 45, 46, 47, 48, 49, 50, 51] (by decide +kernel) (by decide +kernel)
set_option maxRecDepth 20000 in
theorem gX0_settle_X0_firstFreeFor : GoodIn wsX0_settle (wsV RX0 107 RX0 yX0_firstFreeFor wsX0_firstFreeFor) := goodIn_app (goodIn_of _ (by decide +kernel)) ggX0_settle_X0_firstFreeFor
set_option maxRecDepth 20000 in
theorem ggX0_settle_X0_sit : GoodIn wsX0_settle wsX0_sit := goodIn_r _ [26, 1, 2, 27, 12, 13, 14, 28, 29, 30, 31, 32, 33, 34, 35, 42, 43, 44, 45, 46, 47, 48, 49, 50, 51, 52, 53, 54] (by decide +kernel) (by decide +kernel)
set_option maxRecDepth 20000 in
theorem gX0_settle_X0_sit : GoodIn wsX0_settle (wsV RX0 103 RX0 yX0_sit wsX0_sit) := goodIn_app (goodIn_of _ (by decide +kernel)) ggX0_settle_X0_sit
set_option maxRecDepth 20000 in
theorem ggX0_settle_X0_isOpen : GoodIn wsX0_settle wsX0_isOpen := goodIn_r _ [22, 2, 12, 13, 14, 42, 43, 44, 45, 46, 47, 48, 49, 50, 51] (by decide +kernel) (by decide +kernel)
set_option maxRecDepth 20000 in
theorem gX0_settle_X0_isOpen : GoodIn wsX0_settle (wsV RX0 63 RX0 yX0_isOpen wsX0_isOpen) := goodIn_app (goodIn_of _ (by decide +kernel)) ggX0_settle_X0_isOpen
set_option maxRecDepth 20000 in
theorem ggX0_settle_X0_exists : GoodIn wsX0_settle wsX0_exists := goodIn_r _ [11, 1, 42, 43, 44, 45, 46, 47, 48, 49, 50, 51] (by decide +kernel) (by decide +kernel)
set_option maxRecDepth 20000 in
theorem gX0_settle_X0_exists : GoodIn wsX0_settle (wsV RX0 86 RX0 yX0_exists wsX0_exists) := goodIn_app (goodIn_of _ (by decide +kernel)) ggX0_settle_X0_exists
set_option maxRecDepth 20000 in
theorem ggX0_settle_X0_shiftFrom : GoodIn wsX0_settle wsX0_shiftFrom := goodIn_r _ [39, 2, 40, 1, 41, 23, 24, 25, 6, 26, 27, 12, 13, 14, 28, 29, 30, 31, 32, 33, 34, 35, 42, 43, 44, 45, 46, 47, 48, 49, 50, 51, 52, 53, 54] (by decide +kernel) (by decide +kernel)
set_option maxRecDepth 20000 in
theorem gX0_settle_X0_shiftFrom : GoodIn wsX0_settle (wsV RX0 99 RX0 yX0_shiftFrom wsX0_shiftFrom) := goodIn_app (goodIn_of _ (by decide +kernel)) ggX0_settle_X0_shiftFrom
theorem dX0_settle_0 : decode cX0_settle 0 = .ok (.aload_n 0, 1) := by decide +kernel
theorem dX0_settle_1 : decode cX0_settle 1 = .ok (.iload_n 1, 1) := by decide +kernel
theorem dX0_settle_2 : decode cX0_settle 2 = .ok (.invokevirtual 107, 3) := by decide +kernel
theorem dX0_settle_5 : decode cX0_settle 5 = .ok (.istore_n 3, 1) := by decide +kernel
theorem dX0_settle_6 : decode cX0_settle 6 = .ok (.iload_n 3, 1) := by decide +kernel
theorem dX0_settle_7 : decode cX0_settle 7 = .ok (.iconst (-1), 1) := by decide +kernel
theorem dX0_settle_8 : decode cX0_settle 8 = .ok (.if_icmp .eq 11, 3) := by decide +kernel
theorem dX0_settle_11 : decode cX0_settle 11 = .ok (.aload_n 0, 1) := by decide +kernel
theorem dX0_settle_12 : decode cX0_settle 12 = .ok (.iload_n 1, 1) := by decide +kernel
theorem dX0_settle_13 : decode cX0_settle 13 = .ok (.iload_n 3, 1) := by decide +kernel
theorem dX0_settle_14 : decode cX0_settle 14 = .ok (.invokevirtual 103, 3) := by decide +kernel
theorem dX0_settle_17 : decode cX0_settle 17 = .ok (.iconst (-1), 1) := by decide +kernel
theorem dX0_settle_18 : decode cX0_settle 18 = .ok (.ireturn, 1) := by decide +kernel
theorem dX0_settle_19 : decode cX0_settle 19 = .ok (.aload_n 0, 1) := by decide +kernel
theorem dX0_settle_20 : decode cX0_settle 20 = .ok (.getfield 11, 3) := by decide +kernel
theorem dX0_settle_23 : decode cX0_settle 23 = .ok (.iconst 0, 1) := by decide +kernel
theorem dX0_settle_24 : decode cX0_settle 24 = .ok (.aaload, 1) := by decide +kernel
theorem dX0_settle_25 : decode cX0_settle 25 = .ok (.iload_n 1, 1) := by decide +kernel
theorem dX0_settle_26 : decode cX0_settle 26 = .ok (.iaload, 1) := by decide +kernel
theorem dX0_settle_27 : decode cX0_settle 27 = .ok (.iconst 1, 1) := by decide +kernel
theorem dX0_settle_28 : decode cX0_settle 28 = .ok (.iadd, 1) := by decide +kernel
theorem dX0_settle_29 : decode cX0_settle 29 = .ok (.bipush 24, 2) := by decide +kernel
theorem dX0_settle_31 : decode cX0_settle 31 = .ok (.irem, 1) := by decide +kernel
theorem dX0_settle_32 : decode cX0_settle 32 = .ok (.istore 4, 2) := by decide +kernel
theorem dX0_settle_34 : decode cX0_settle 34 = .ok (.iload_n 2, 1) := by decide +kernel
theorem dX0_settle_35 : decode cX0_settle 35 = .ok (.ifCond .eq 60, 3) := by decide +kernel
theorem dX0_settle_38 : decode cX0_settle 38 = .ok (.aload_n 0, 1) := by decide +kernel
theorem dX0_settle_39 : decode cX0_settle 39 = .ok (.iload 4, 2) := by decide +kernel
theorem dX0_settle_41 : decode cX0_settle 41 = .ok (.invokevirtual 63, 3) := by decide +kernel
theorem dX0_settle_44 : decode cX0_settle 44 = .ok (.ifCond .eq 51, 3) := by decide +kernel
theorem dX0_settle_47 : decode cX0_settle 47 = .ok (.aload_n 0, 1) := by decide +kernel
theorem dX0_settle_48 : decode cX0_settle 48 = .ok (.getfield 16, 3) := by decide +kernel
theorem dX0_settle_51 : decode cX0_settle 51 = .ok (.iconst 0, 1) := by decide +kernel
theorem dX0_settle_52 : decode cX0_settle 52 = .ok (.aaload, 1) := by decide +kernel
theorem dX0_settle_53 : decode cX0_settle 53 = .ok (.iload 4, 2) := by decide +kernel
theorem dX0_settle_55 : decode cX0_settle 55 = .ok (.iaload, 1) := by decide +kernel
theorem dX0_settle_56 : decode cX0_settle 56 = .ok (.istore 5, 2) := by decide +kernel
theorem dX0_settle_58 : decode cX0_settle 58 = .ok (.aload_n 0, 1) := by decide +kernel
theorem dX0_settle_59 : decode cX0_settle 59 = .ok (.iload 5, 2) := by decide +kernel
theorem dX0_settle_61 : decode cX0_settle 61 = .ok (.invokevirtual 86, 3) := by decide +kernel
theorem dX0_settle_64 : decode cX0_settle 64 = .ok (.ifCond .eq 31, 3) := by decide +kernel
theorem dX0_settle_67 : decode cX0_settle 67 = .ok (.aload_n 0, 1) := by decide +kernel
theorem dX0_settle_68 : decode cX0_settle 68 = .ok (.getfield 11, 3) := by decide +kernel
theorem dX0_settle_71 : decode cX0_settle 71 = .ok (.iconst 1, 1) := by decide +kernel
theorem dX0_settle_72 : decode cX0_settle 72 = .ok (.aaload, 1) := by decide +kernel
theorem dX0_settle_73 : decode cX0_settle 73 = .ok (.iload 5, 2) := by decide +kernel
theorem dX0_settle_75 : decode cX0_settle 75 = .ok (.iaload, 1) := by decide +kernel
theorem dX0_settle_76 : decode cX0_settle 76 = .ok (.aload_n 0, 1) := by decide +kernel
theorem dX0_settle_77 : decode cX0_settle 77 = .ok (.getfield 11, 3) := by decide +kernel
theorem dX0_settle_80 : decode cX0_settle 80 = .ok (.iconst 1, 1) := by decide +kernel
theorem dX0_settle_81 : decode cX0_settle 81 = .ok (.aaload, 1) := by decide +kernel
theorem dX0_settle_82 : decode cX0_settle 82 = .ok (.iload_n 1, 1) := by decide +kernel
theorem dX0_settle_83 : decode cX0_settle 83 = .ok (.iaload, 1) := by decide +kernel
theorem dX0_settle_84 : decode cX0_settle 84 = .ok (.if_icmp .ge 11, 3) := by decide +kernel
theorem dX0_settle_87 : decode cX0_settle 87 = .ok (.aload_n 0, 1) := by decide +kernel
theorem dX0_settle_88 : decode cX0_settle 88 = .ok (.iload 4, 2) := by decide +kernel
theorem dX0_settle_90 : decode cX0_settle 90 = .ok (.iload_n 1, 1) := by decide +kernel
theorem dX0_settle_91 : decode cX0_settle 91 = .ok (.invokevirtual 99, 3) := by decide +kernel
theorem dX0_settle_94 : decode cX0_settle 94 = .ok (.ireturn, 1) := by decide +kernel
theorem dX0_settle_95 : decode cX0_settle 95 = .ok (.aload_n 0, 1) := by decide +kernel
theorem dX0_settle_96 : decode cX0_settle 96 = .ok (.iload_n 1, 1) := by decide +kernel
theorem dX0_settle_97 : decode cX0_settle 97 = .ok (.bipush 24, 2) := by decide +kernel
theorem dX0_settle_99 : decode cX0_settle 99 = .ok (.invokevirtual 103, 3) := by decide +kernel
theorem dX0_settle_102 : decode cX0_settle 102 = .ok (.iconst (-1), 1) := by decide +kernel
theorem dX0_settle_103 : decode cX0_settle 103 = .ok (.ireturn, 1) := by decide +kernel
set_option maxRecDepth 20000 in
theorem ggX0_firstFreeFor_X0_exists : GoodIn wsX0_firstFreeFor wsX0_exists := goodIn_r _ [6, 1, 19, 20, 21, 22, 23, 24, 25, 26, 27, 28] (by decide +kernel) (by decide +kernel)
set_option maxRecDepth 20000 in
theorem gX0_firstFreeFor_X0_exists : GoodIn wsX0_firstFreeFor (wsV RX0 86 RX0 yX0_exists wsX0_exists) := goodIn_app (goodIn_of _ (by decide +kernel)) ggX0_firstFreeFor_X0_exists
set_option maxRecDepth 20000 in
theorem ggX0_firstFreeFor_X3_isHole : GoodIn wsX0_firstFreeFor wsX3_isHole := goodIn_r _ [9] (by decide +kernel) (by decide +kernel)
set_option maxRecDepth 20000 in
theorem gX0_firstFreeFor_X3_isHole_n59 : GoodIn wsX0_firstFreeFor (wsX3_isHole) := ggX0_firstFreeFor_X3_isHole
set_option maxRecDepth 20000 in
theorem ggX0_firstFreeFor_X0_isFree : GoodIn wsX0_firstFreeFor wsX0_isFree := goodIn_r _ [13, 14, 15, 16, 17, 5, 18, 7, 8, 9, 19, 20, 21, 22, 23, 24, 25, 26, 27, 28] (by decide +kernel) (by decide +kernel)
set_option maxRecDepth 20000 in
theorem gX0_firstFreeFor_X0_isFree : GoodIn wsX0_firstFreeFor (wsV RX0 110 RX0 yX0_isFree wsX0_isFree) := goodIn_app (goodIn_of _ (by decide +kernel)) ggX0_firstFreeFor_X0_isFree
theorem dX0_firstFreeFor_0 : decode cX0_firstFreeFor 0 = .ok (.aload_n 0, 1) := by decide +kernel
theorem dX0_firstFreeFor_1 : decode cX0_firstFreeFor 1 = .ok (.getfield 11, 3) := by decide +kernel
theorem dX0_firstFreeFor_4 : decode cX0_firstFreeFor 4 = .ok (.iconst 3, 1) := by decide +kernel
theorem dX0_firstFreeFor_5 : decode cX0_firstFreeFor 5 = .ok (.aaload, 1) := by decide +kernel
theorem dX0_firstFreeFor_6 : decode cX0_firstFreeFor 6 = .ok (.iload_n 1, 1) := by decide +kernel
theorem dX0_firstFreeFor_7 : decode cX0_firstFreeFor 7 = .ok (.iaload, 1) := by decide +kernel
theorem dX0_firstFreeFor_8 : decode cX0_firstFreeFor 8 = .ok (.istore_n 2, 1) := by decide +kernel
theorem dX0_firstFreeFor_9 : decode cX0_firstFreeFor 9 = .ok (.aload_n 0, 1) := by decide +kernel
theorem dX0_firstFreeFor_10 : decode cX0_firstFreeFor 10 = .ok (.iload_n 2, 1) := by decide +kernel
theorem dX0_firstFreeFor_11 : decode cX0_firstFreeFor 11 = .ok (.invokevirtual 86, 3) := by decide +kernel
theorem dX0_firstFreeFor_14 : decode cX0_firstFreeFor 14 = .ok (.ifCond .eq 14, 3) := by decide +kernel
theorem dX0_firstFreeFor_17 : decode cX0_firstFreeFor 17 = .ok (.aload_n 0, 1) := by decide +kernel
theorem dX0_firstFreeFor_18 : decode cX0_firstFreeFor 18 = .ok (.getfield 11, 3) := by decide +kernel
theorem dX0_firstFreeFor_21 : decode cX0_firstFreeFor 21 = .ok (.iconst 2, 1) := by decide +kernel
theorem dX0_firstFreeFor_22 : decode cX0_firstFreeFor 22 = .ok (.aaload, 1) := by decide +kernel
theorem dX0_firstFreeFor_23 : decode cX0_firstFreeFor 23 = .ok (.iload_n 2, 1) := by decide +kernel
theorem dX0_firstFreeFor_24 : decode cX0_firstFreeFor 24 = .ok (.iaload, 1) := by decide +kernel
theorem dX0_firstFreeFor_25 : decode cX0_firstFreeFor 25 = .ok (.goto 4, 3) := by decide +kernel
theorem dX0_firstFreeFor_28 : decode cX0_firstFreeFor 28 = .ok (.iconst (-1), 1) := by decide +kernel
theorem dX0_firstFreeFor_29 : decode cX0_firstFreeFor 29 = .ok (.istore_n 3, 1) := by decide +kernel
theorem dX0_firstFreeFor_30 : decode cX0_firstFreeFor 30 = .ok (.iload_n 3, 1) := by decide +kernel
theorem dX0_firstFreeFor_31 : decode cX0_firstFreeFor 31 = .ok (.invokestatic 59, 3) := by decide +kernel
theorem dX0_firstFreeFor_34 : decode cX0_firstFreeFor 34 = .ok (.ifCond .eq 31, 3) := by decide +kernel
theorem dX0_firstFreeFor_37 : decode cX0_firstFreeFor 37 = .ok (.aload_n 0, 1) := by decide +kernel
theorem dX0_firstFreeFor_38 : decode cX0_firstFreeFor 38 = .ok (.iload_n 3, 1) := by decide +kernel
theorem dX0_firstFreeFor_39 : decode cX0_firstFreeFor 39 = .ok (.iconst 1, 1) := by decide +kernel
theorem dX0_firstFreeFor_40 : decode cX0_firstFreeFor 40 = .ok (.isub, 1) := by decide +kernel
theorem dX0_firstFreeFor_41 : decode cX0_firstFreeFor 41 = .ok (.invokevirtual 110, 3) := by decide +kernel
theorem dX0_firstFreeFor_44 : decode cX0_firstFreeFor 44 = .ok (.ifCond .eq 7, 3) := by decide +kernel
theorem dX0_firstFreeFor_47 : decode cX0_firstFreeFor 47 = .ok (.iload_n 3, 1) := by decide +kernel
theorem dX0_firstFreeFor_48 : decode cX0_firstFreeFor 48 = .ok (.iconst 1, 1) := by decide +kernel
theorem dX0_firstFreeFor_49 : decode cX0_firstFreeFor 49 = .ok (.isub, 1) := by decide +kernel
theorem dX0_firstFreeFor_50 : decode cX0_firstFreeFor 50 = .ok (.ireturn, 1) := by decide +kernel
theorem dX0_firstFreeFor_51 : decode cX0_firstFreeFor 51 = .ok (.aload_n 0, 1) := by decide +kernel
theorem dX0_firstFreeFor_52 : decode cX0_firstFreeFor 52 = .ok (.iload_n 3, 1) := by decide +kernel
theorem dX0_firstFreeFor_53 : decode cX0_firstFreeFor 53 = .ok (.iconst 1, 1) := by decide +kernel
theorem dX0_firstFreeFor_54 : decode cX0_firstFreeFor 54 = .ok (.iadd, 1) := by decide +kernel
theorem dX0_firstFreeFor_55 : decode cX0_firstFreeFor 55 = .ok (.invokevirtual 110, 3) := by decide +kernel
theorem dX0_firstFreeFor_58 : decode cX0_firstFreeFor 58 = .ok (.ifCond .eq 7, 3) := by decide +kernel
theorem dX0_firstFreeFor_61 : decode cX0_firstFreeFor 61 = .ok (.iload_n 3, 1) := by decide +kernel
theorem dX0_firstFreeFor_62 : decode cX0_firstFreeFor 62 = .ok (.iconst 1, 1) := by decide +kernel
theorem dX0_firstFreeFor_63 : decode cX0_firstFreeFor 63 = .ok (.iadd, 1) := by decide +kernel
theorem dX0_firstFreeFor_64 : decode cX0_firstFreeFor 64 = .ok (.ireturn, 1) := by decide +kernel
theorem dX0_firstFreeFor_65 : decode cX0_firstFreeFor 65 = .ok (.iconst 0, 1) := by decide +kernel
theorem dX0_firstFreeFor_66 : decode cX0_firstFreeFor 66 = .ok (.istore 4, 2) := by decide +kernel
theorem dX0_firstFreeFor_68 : decode cX0_firstFreeFor 68 = .ok (.iload 4, 2) := by decide +kernel
theorem dX0_firstFreeFor_70 : decode cX0_firstFreeFor 70 = .ok (.bipush 24, 2) := by decide +kernel
theorem dX0_firstFreeFor_72 : decode cX0_firstFreeFor 72 = .ok (.if_icmp .ge 37, 3) := by decide +kernel
theorem dX0_firstFreeFor_75 : decode cX0_firstFreeFor 75 = .ok (.aload_n 0, 1) := by decide +kernel
theorem dX0_firstFreeFor_76 : decode cX0_firstFreeFor 76 = .ok (.getfield 11, 3) := by decide +kernel
theorem dX0_firstFreeFor_79 : decode cX0_firstFreeFor 79 = .ok (.iconst 0, 1) := by decide +kernel
theorem dX0_firstFreeFor_80 : decode cX0_firstFreeFor 80 = .ok (.aaload, 1) := by decide +kernel
theorem dX0_firstFreeFor_81 : decode cX0_firstFreeFor 81 = .ok (.iload_n 1, 1) := by decide +kernel
theorem dX0_firstFreeFor_82 : decode cX0_firstFreeFor 82 = .ok (.iaload, 1) := by decide +kernel
theorem dX0_firstFreeFor_83 : decode cX0_firstFreeFor 83 = .ok (.iload 4, 2) := by decide +kernel
theorem dX0_firstFreeFor_85 : decode cX0_firstFreeFor 85 = .ok (.iadd, 1) := by decide +kernel
theorem dX0_firstFreeFor_86 : decode cX0_firstFreeFor 86 = .ok (.bipush 24, 2) := by decide +kernel
theorem dX0_firstFreeFor_88 : decode cX0_firstFreeFor 88 = .ok (.irem, 1) := by decide +kernel
theorem dX0_firstFreeFor_89 : decode cX0_firstFreeFor 89 = .ok (.istore 5, 2) := by decide +kernel
theorem dX0_firstFreeFor_91 : decode cX0_firstFreeFor 91 = .ok (.aload_n 0, 1) := by decide +kernel
theorem dX0_firstFreeFor_92 : decode cX0_firstFreeFor 92 = .ok (.iload 5, 2) := by decide +kernel
theorem dX0_firstFreeFor_94 : decode cX0_firstFreeFor 94 = .ok (.invokevirtual 110, 3) := by decide +kernel
theorem dX0_firstFreeFor_97 : decode cX0_firstFreeFor 97 = .ok (.ifCond .eq 6, 3) := by decide +kernel
theorem dX0_firstFreeFor_100 : decode cX0_firstFreeFor 100 = .ok (.iload 5, 2) := by decide +kernel
theorem dX0_firstFreeFor_102 : decode cX0_firstFreeFor 102 = .ok (.ireturn, 1) := by decide +kernel
theorem dX0_firstFreeFor_103 : decode cX0_firstFreeFor 103 = .ok (.iinc 4 1, 3) := by decide +kernel
theorem dX0_firstFreeFor_106 : decode cX0_firstFreeFor 106 = .ok (.goto (-38), 3) := by decide +kernel
theorem dX0_firstFreeFor_109 : decode cX0_firstFreeFor 109 = .ok (.iconst (-1), 1) := by decide +kernel
theorem dX0_firstFreeFor_110 : decode cX0_firstFreeFor 110 = .ok (.ireturn, 1) := by decide +kernel
set_option maxRecDepth 20000 in
theorem ggX0_shiftFrom_X0_sit : GoodIn wsX0_shiftFrom wsX0_sit := goodIn_r _ [9, 3, 1, 10, 11, 12, 13, 14, 15, 16, 17, 18, 19, 20, 21, 22, 23, 24, 25, 26, 27, 28, 29, 30, 31, 32, 33, 34] (by decide +kernel) (by decide +kernel)
set_option maxRecDepth 20000 in
theorem gX0_shiftFrom_X0_sit : GoodIn wsX0_shiftFrom (wsV RX0 103 RX0 yX0_sit wsX0_sit) := goodIn_app (goodIn_of _ (by decide +kernel)) ggX0_shiftFrom_X0_sit
theorem dX0_shiftFrom_0 : decode cX0_shiftFrom 0 = .ok (.aload_n 0, 1) := by decide +kernel
theorem dX0_shiftFrom_1 : decode cX0_shiftFrom 1 = .ok (.getfield 16, 3) := by decide +kernel
theorem dX0_shiftFrom_4 : decode cX0_shiftFrom 4 = .ok (.iconst 0, 1) := by decide +kernel
theorem dX0_shiftFrom_5 : decode cX0_shiftFrom 5 = .ok (.aaload, 1) := by decide +kernel
theorem dX0_shiftFrom_6 : decode cX0_shiftFrom 6 = .ok (.iload_n 1, 1) := by decide +kernel
theorem dX0_shiftFrom_7 : decode cX0_shiftFrom 7 = .ok (.iaload, 1) := by decide +kernel
theorem dX0_shiftFrom_8 : decode cX0_shiftFrom 8 = .ok (.istore_n 3, 1) := by decide +kernel
theorem dX0_shiftFrom_9 : decode cX0_shiftFrom 9 = .ok (.aload_n 0, 1) := by decide +kernel
theorem dX0_shiftFrom_10 : decode cX0_shiftFrom 10 = .ok (.dup, 1) := by decide +kernel
theorem dX0_shiftFrom_11 : decode cX0_shiftFrom 11 = .ok (.getfield 53, 3) := by decide +kernel
theorem dX0_shiftFrom_14 : decode cX0_shiftFrom 14 = .ok (.iconst 1, 1) := by decide +kernel
theorem dX0_shiftFrom_15 : decode cX0_shiftFrom 15 = .ok (.iadd, 1) := by decide +kernel
theorem dX0_shiftFrom_16 : decode cX0_shiftFrom 16 = .ok (.putfield 53, 3) := by decide +kernel
theorem dX0_shiftFrom_19 : decode cX0_shiftFrom 19 = .ok (.aload_n 0, 1) := by decide +kernel
theorem dX0_shiftFrom_20 : decode cX0_shiftFrom 20 = .ok (.getfield 11, 3) := by decide +kernel
theorem dX0_shiftFrom_23 : decode cX0_shiftFrom 23 = .ok (.iconst 3, 1) := by decide +kernel
theorem dX0_shiftFrom_24 : decode cX0_shiftFrom 24 = .ok (.aaload, 1) := by decide +kernel
theorem dX0_shiftFrom_25 : decode cX0_shiftFrom 25 = .ok (.iload_n 2, 1) := by decide +kernel
theorem dX0_shiftFrom_26 : decode cX0_shiftFrom 26 = .ok (.iaload, 1) := by decide +kernel
theorem dX0_shiftFrom_27 : decode cX0_shiftFrom 27 = .ok (.iload_n 3, 1) := by decide +kernel
theorem dX0_shiftFrom_28 : decode cX0_shiftFrom 28 = .ok (.if_icmp .eq 13, 3) := by decide +kernel
theorem dX0_shiftFrom_31 : decode cX0_shiftFrom 31 = .ok (.aload_n 0, 1) := by decide +kernel
theorem dX0_shiftFrom_32 : decode cX0_shiftFrom 32 = .ok (.dup, 1) := by decide +kernel
theorem dX0_shiftFrom_33 : decode cX0_shiftFrom 33 = .ok (.getfield 56, 3) := by decide +kernel
theorem dX0_shiftFrom_36 : decode cX0_shiftFrom 36 = .ok (.iconst 1, 1) := by decide +kernel
theorem dX0_shiftFrom_37 : decode cX0_shiftFrom 37 = .ok (.iadd, 1) := by decide +kernel
theorem dX0_shiftFrom_38 : decode cX0_shiftFrom 38 = .ok (.putfield 56, 3) := by decide +kernel
theorem dX0_shiftFrom_41 : decode cX0_shiftFrom 41 = .ok (.aload_n 0, 1) := by decide +kernel
theorem dX0_shiftFrom_42 : decode cX0_shiftFrom 42 = .ok (.getfield 11, 3) := by decide +kernel
theorem dX0_shiftFrom_45 : decode cX0_shiftFrom 45 = .ok (.iconst 5, 1) := by decide +kernel
theorem dX0_shiftFrom_46 : decode cX0_shiftFrom 46 = .ok (.aaload, 1) := by decide +kernel
theorem dX0_shiftFrom_47 : decode cX0_shiftFrom 47 = .ok (.iload_n 3, 1) := by decide +kernel
theorem dX0_shiftFrom_48 : decode cX0_shiftFrom 48 = .ok (.dup2, 1) := by decide +kernel
theorem dX0_shiftFrom_49 : decode cX0_shiftFrom 49 = .ok (.iaload, 1) := by decide +kernel
theorem dX0_shiftFrom_50 : decode cX0_shiftFrom 50 = .ok (.iconst 1, 1) := by decide +kernel
theorem dX0_shiftFrom_51 : decode cX0_shiftFrom 51 = .ok (.iadd, 1) := by decide +kernel
theorem dX0_shiftFrom_52 : decode cX0_shiftFrom 52 = .ok (.iastore, 1) := by decide +kernel
theorem dX0_shiftFrom_53 : decode cX0_shiftFrom 53 = .ok (.aload_n 0, 1) := by decide +kernel
theorem dX0_shiftFrom_54 : decode cX0_shiftFrom 54 = .ok (.getfield 11, 3) := by decide +kernel
theorem dX0_shiftFrom_57 : decode cX0_shiftFrom 57 = .ok (.iconst 2, 1) := by decide +kernel
theorem dX0_shiftFrom_58 : decode cX0_shiftFrom 58 = .ok (.aaload, 1) := by decide +kernel
theorem dX0_shiftFrom_59 : decode cX0_shiftFrom 59 = .ok (.iload_n 3, 1) := by decide +kernel
theorem dX0_shiftFrom_60 : decode cX0_shiftFrom 60 = .ok (.iconst (-1), 1) := by decide +kernel
theorem dX0_shiftFrom_61 : decode cX0_shiftFrom 61 = .ok (.iastore, 1) := by decide +kernel
theorem dX0_shiftFrom_62 : decode cX0_shiftFrom 62 = .ok (.aload_n 0, 1) := by decide +kernel
theorem dX0_shiftFrom_63 : decode cX0_shiftFrom 63 = .ok (.iload_n 2, 1) := by decide +kernel
theorem dX0_shiftFrom_64 : decode cX0_shiftFrom 64 = .ok (.iload_n 1, 1) := by decide +kernel
theorem dX0_shiftFrom_65 : decode cX0_shiftFrom 65 = .ok (.invokevirtual 103, 3) := by decide +kernel
theorem dX0_shiftFrom_68 : decode cX0_shiftFrom 68 = .ok (.iload_n 3, 1) := by decide +kernel
theorem dX0_shiftFrom_69 : decode cX0_shiftFrom 69 = .ok (.ireturn, 1) := by decide +kernel
set_option maxRecDepth 20000 in
theorem ggX0_sit_X3_isHole : GoodIn wsX0_sit wsX3_isHole := goodIn_r _ [6] (by decide +kernel) (by decide +kernel)
set_option maxRecDepth 20000 in
theorem gX0_sit_X3_isHole_n59 : GoodIn wsX0_sit (wsX3_isHole) := ggX0_sit_X3_isHole
set_option maxRecDepth 20000 in
theorem ggX0_sit_X2_note : GoodIn wsX0_sit wsX2_note := goodIn_r _ [11, 12, 13, 14, 25, 26, 27] (by decide +kernel) (by decide +kernel)
set_option maxRecDepth 20000 in
theorem gX0_sit_X2_note : GoodIn wsX0_sit (wsV RX0 113 RX2 yX2_note wsX2_note) := goodIn_app (goodIn_of _ (by decide +kernel)) ggX0_sit_X2_note
theorem dX0_sit_0 : decode cX0_sit 0 = .ok (.aload_n 0, 1) := by decide +kernel
theorem dX0_sit_1 : decode cX0_sit 1 = .ok (.getfield 11, 3) := by decide +kernel
theorem dX0_sit_4 : decode cX0_sit 4 = .ok (.iconst 2, 1) := by decide +kernel
theorem dX0_sit_5 : decode cX0_sit 5 = .ok (.aaload, 1) := by decide +kernel
theorem dX0_sit_6 : decode cX0_sit 6 = .ok (.iload_n 1, 1) := by decide +kernel
theorem dX0_sit_7 : decode cX0_sit 7 = .ok (.iload_n 2, 1) := by decide +kernel
theorem dX0_sit_8 : decode cX0_sit 8 = .ok (.iastore, 1) := by decide +kernel
theorem dX0_sit_9 : decode cX0_sit 9 = .ok (.iload_n 2, 1) := by decide +kernel
theorem dX0_sit_10 : decode cX0_sit 10 = .ok (.invokestatic 59, 3) := by decide +kernel
theorem dX0_sit_13 : decode cX0_sit 13 = .ok (.ifCond .eq 12, 3) := by decide +kernel
theorem dX0_sit_16 : decode cX0_sit 16 = .ok (.aload_n 0, 1) := by decide +kernel
theorem dX0_sit_17 : decode cX0_sit 17 = .ok (.getfield 16, 3) := by decide +kernel
theorem dX0_sit_20 : decode cX0_sit 20 = .ok (.iconst 0, 1) := by decide +kernel
theorem dX0_sit_21 : decode cX0_sit 21 = .ok (.aaload, 1) := by decide +kernel
theorem dX0_sit_22 : decode cX0_sit 22 = .ok (.iload_n 2, 1) := by decide +kernel
theorem dX0_sit_23 : decode cX0_sit 23 = .ok (.iload_n 1, 1) := by decide +kernel
theorem dX0_sit_24 : decode cX0_sit 24 = .ok (.iastore, 1) := by decide +kernel
theorem dX0_sit_25 : decode cX0_sit 25 = .ok (.aload_n 0, 1) := by decide +kernel
theorem dX0_sit_26 : decode cX0_sit 26 = .ok (.getfield 32, 3) := by decide +kernel
theorem dX0_sit_29 : decode cX0_sit 29 = .ok (.iload_n 1, 1) := by decide +kernel
theorem dX0_sit_30 : decode cX0_sit 30 = .ok (.iload_n 2, 1) := by decide +kernel
theorem dX0_sit_31 : decode cX0_sit 31 = .ok (.invokevirtual 113, 3) := by decide +kernel
theorem dX0_sit_34 : decode cX0_sit 34 = .ok (.return_, 1) := by decide +kernel
set_option maxRecDepth 20000 in
theorem ggX0_endNight_X0_exists : GoodIn wsX0_endNight wsX0_exists := goodIn_r _ [10, 2, 15, 16, 17, 18, 19, 20, 21, 22, 23, 24] (by decide +kernel) (by decide +kernel)
set_option maxRecDepth 20000 in
theorem gX0_endNight_X0_exists : GoodIn wsX0_endNight (wsV RX0 86 RX0 yX0_exists wsX0_exists) := goodIn_app (goodIn_of _ (by decide +kernel)) ggX0_endNight_X0_exists
set_option maxRecDepth 20000 in
theorem ggX0_endNight_X0_countAtDawn : GoodIn wsX0_endNight wsX0_countAtDawn := goodIn_r _ [14, 2, 1, 15, 16, 17, 18, 19, 20, 21, 22, 23, 24] (by decide +kernel) (by decide +kernel)
set_option maxRecDepth 20000 in
theorem gX0_endNight_X0_countAtDawn : GoodIn wsX0_endNight (wsV RX0 116 RX0 yX0_countAtDawn wsX0_countAtDawn) := goodIn_app (goodIn_of _ (by decide +kernel)) ggX0_endNight_X0_countAtDawn
theorem dX0_endNight_0 : decode cX0_endNight 0 = .ok (.iconst 0, 1) := by decide +kernel
theorem dX0_endNight_1 : decode cX0_endNight 1 = .ok (.istore_n 1, 1) := by decide +kernel
theorem dX0_endNight_2 : decode cX0_endNight 2 = .ok (.iload_n 1, 1) := by decide +kernel
theorem dX0_endNight_3 : decode cX0_endNight 3 = .ok (.iconst 4, 1) := by decide +kernel
theorem dX0_endNight_4 : decode cX0_endNight 4 = .ok (.if_icmp .ge 16, 3) := by decide +kernel
theorem dX0_endNight_7 : decode cX0_endNight 7 = .ok (.aload_n 0, 1) := by decide +kernel
theorem dX0_endNight_8 : decode cX0_endNight 8 = .ok (.getfield 23, 3) := by decide +kernel
theorem dX0_endNight_11 : decode cX0_endNight 11 = .ok (.iload_n 1, 1) := by decide +kernel
theorem dX0_endNight_12 : decode cX0_endNight 12 = .ok (.iconst 0, 1) := by decide +kernel
theorem dX0_endNight_13 : decode cX0_endNight 13 = .ok (.iastore, 1) := by decide +kernel
theorem dX0_endNight_14 : decode cX0_endNight 14 = .ok (.iinc 1 1, 3) := by decide +kernel
theorem dX0_endNight_17 : decode cX0_endNight 17 = .ok (.goto (-15), 3) := by decide +kernel
theorem dX0_endNight_20 : decode cX0_endNight 20 = .ok (.iconst 0, 1) := by decide +kernel
theorem dX0_endNight_21 : decode cX0_endNight 21 = .ok (.istore_n 1, 1) := by decide +kernel
theorem dX0_endNight_22 : decode cX0_endNight 22 = .ok (.iload_n 1, 1) := by decide +kernel
theorem dX0_endNight_23 : decode cX0_endNight 23 = .ok (.bipush 16, 2) := by decide +kernel
theorem dX0_endNight_25 : decode cX0_endNight 25 = .ok (.if_icmp .ge 31, 3) := by decide +kernel
theorem dX0_endNight_28 : decode cX0_endNight 28 = .ok (.aload_n 0, 1) := by decide +kernel
theorem dX0_endNight_29 : decode cX0_endNight 29 = .ok (.iload_n 1, 1) := by decide +kernel
theorem dX0_endNight_30 : decode cX0_endNight 30 = .ok (.invokevirtual 86, 3) := by decide +kernel
theorem dX0_endNight_33 : decode cX0_endNight 33 = .ok (.ifCond .eq 17, 3) := by decide +kernel
theorem dX0_endNight_36 : decode cX0_endNight 36 = .ok (.aload_n 0, 1) := by decide +kernel
theorem dX0_endNight_37 : decode cX0_endNight 37 = .ok (.iload_n 1, 1) := by decide +kernel
theorem dX0_endNight_38 : decode cX0_endNight 38 = .ok (.invokevirtual 116, 3) := by decide +kernel
theorem dX0_endNight_41 : decode cX0_endNight 41 = .ok (.aload_n 0, 1) := by decide +kernel
theorem dX0_endNight_42 : decode cX0_endNight 42 = .ok (.getfield 11, 3) := by decide +kernel
theorem dX0_endNight_45 : decode cX0_endNight 45 = .ok (.iconst 2, 1) := by decide +kernel
theorem dX0_endNight_46 : decode cX0_endNight 46 = .ok (.aaload, 1) := by decide +kernel
theorem dX0_endNight_47 : decode cX0_endNight 47 = .ok (.iload_n 1, 1) := by decide +kernel
theorem dX0_endNight_48 : decode cX0_endNight 48 = .ok (.iconst (-1), 1) := by decide +kernel
theorem dX0_endNight_49 : decode cX0_endNight 49 = .ok (.iastore, 1) := by decide +kernel
theorem dX0_endNight_50 : decode cX0_endNight 50 = .ok (.iinc 1 1, 3) := by decide +kernel
theorem dX0_endNight_53 : decode cX0_endNight 53 = .ok (.goto (-31), 3) := by decide +kernel
theorem dX0_endNight_56 : decode cX0_endNight 56 = .ok (.iconst 0, 1) := by decide +kernel
theorem dX0_endNight_57 : decode cX0_endNight 57 = .ok (.istore_n 1, 1) := by decide +kernel
theorem dX0_endNight_58 : decode cX0_endNight 58 = .ok (.iload_n 1, 1) := by decide +kernel
theorem dX0_endNight_59 : decode cX0_endNight 59 = .ok (.bipush 24, 2) := by decide +kernel
theorem dX0_endNight_61 : decode cX0_endNight 61 = .ok (.if_icmp .ge 18, 3) := by decide +kernel
theorem dX0_endNight_64 : decode cX0_endNight 64 = .ok (.aload_n 0, 1) := by decide +kernel
theorem dX0_endNight_65 : decode cX0_endNight 65 = .ok (.getfield 16, 3) := by decide +kernel
theorem dX0_endNight_68 : decode cX0_endNight 68 = .ok (.iconst 0, 1) := by decide +kernel
theorem dX0_endNight_69 : decode cX0_endNight 69 = .ok (.aaload, 1) := by decide +kernel
theorem dX0_endNight_70 : decode cX0_endNight 70 = .ok (.iload_n 1, 1) := by decide +kernel
theorem dX0_endNight_71 : decode cX0_endNight 71 = .ok (.iconst (-1), 1) := by decide +kernel
theorem dX0_endNight_72 : decode cX0_endNight 72 = .ok (.iastore, 1) := by decide +kernel
theorem dX0_endNight_73 : decode cX0_endNight 73 = .ok (.iinc 1 1, 3) := by decide +kernel
theorem dX0_endNight_76 : decode cX0_endNight 76 = .ok (.goto (-18), 3) := by decide +kernel
theorem dX0_endNight_79 : decode cX0_endNight 79 = .ok (.aload_n 0, 1) := by decide +kernel
theorem dX0_endNight_80 : decode cX0_endNight 80 = .ok (.dup, 1) := by decide +kernel
theorem dX0_endNight_81 : decode cX0_endNight 81 = .ok (.getfield 46, 3) := by decide +kernel
theorem dX0_endNight_84 : decode cX0_endNight 84 = .ok (.iconst 1, 1) := by decide +kernel
theorem dX0_endNight_85 : decode cX0_endNight 85 = .ok (.iadd, 1) := by decide +kernel
theorem dX0_endNight_86 : decode cX0_endNight 86 = .ok (.putfield 46, 3) := by decide +kernel
theorem dX0_endNight_89 : decode cX0_endNight 89 = .ok (.aload_n 0, 1) := by decide +kernel
theorem dX0_endNight_90 : decode cX0_endNight 90 = .ok (.iconst 0, 1) := by decide +kernel
theorem dX0_endNight_91 : decode cX0_endNight 91 = .ok (.putfield 50, 3) := by decide +kernel
theorem dX0_endNight_94 : decode cX0_endNight 94 = .ok (.aload_n 0, 1) := by decide +kernel
theorem dX0_endNight_95 : decode cX0_endNight 95 = .ok (.getfield 23, 3) := by decide +kernel
theorem dX0_endNight_98 : decode cX0_endNight 98 = .ok (.iconst 0, 1) := by decide +kernel
theorem dX0_endNight_99 : decode cX0_endNight 99 = .ok (.iaload, 1) := by decide +kernel
theorem dX0_endNight_100 : decode cX0_endNight 100 = .ok (.aload_n 0, 1) := by decide +kernel
theorem dX0_endNight_101 : decode cX0_endNight 101 = .ok (.getfield 23, 3) := by decide +kernel
theorem dX0_endNight_104 : decode cX0_endNight 104 = .ok (.iconst 1, 1) := by decide +kernel
theorem dX0_endNight_105 : decode cX0_endNight 105 = .ok (.iaload, 1) := by decide +kernel
theorem dX0_endNight_106 : decode cX0_endNight 106 = .ok (.iadd, 1) := by decide +kernel
theorem dX0_endNight_107 : decode cX0_endNight 107 = .ok (.ireturn, 1) := by decide +kernel
theorem dX0_countAtDawn_0 : decode cX0_countAtDawn 0 = .ok (.aload_n 0, 1) := by decide +kernel
theorem dX0_countAtDawn_1 : decode cX0_countAtDawn 1 = .ok (.getfield 11, 3) := by decide +kernel
theorem dX0_countAtDawn_4 : decode cX0_countAtDawn 4 = .ok (.iconst 2, 1) := by decide +kernel
theorem dX0_countAtDawn_5 : decode cX0_countAtDawn 5 = .ok (.aaload, 1) := by decide +kernel
theorem dX0_countAtDawn_6 : decode cX0_countAtDawn 6 = .ok (.iload_n 1, 1) := by decide +kernel
theorem dX0_countAtDawn_7 : decode cX0_countAtDawn 7 = .ok (.iaload, 1) := by decide +kernel
theorem dX0_countAtDawn_8 : decode cX0_countAtDawn 8 = .ok (.istore_n 2, 1) := by decide +kernel
theorem dX0_countAtDawn_9 : decode cX0_countAtDawn 9 = .ok (.iload_n 2, 1) := by decide +kernel
theorem dX0_countAtDawn_10 : decode cX0_countAtDawn 10 = .ok (.iconst (-1), 1) := by decide +kernel
theorem dX0_countAtDawn_11 : decode cX0_countAtDawn 11 = .ok (.if_icmp .ne 29, 3) := by decide +kernel
theorem dX0_countAtDawn_14 : decode cX0_countAtDawn 14 = .ok (.aload_n 0, 1) := by decide +kernel
theorem dX0_countAtDawn_15 : decode cX0_countAtDawn 15 = .ok (.getfield 23, 3) := by decide +kernel
theorem dX0_countAtDawn_18 : decode cX0_countAtDawn 18 = .ok (.iconst 3, 1) := by decide +kernel
theorem dX0_countAtDawn_19 : decode cX0_countAtDawn 19 = .ok (.dup2, 1) := by decide +kernel
theorem dX0_countAtDawn_20 : decode cX0_countAtDawn 20 = .ok (.iaload, 1) := by decide +kernel
theorem dX0_countAtDawn_21 : decode cX0_countAtDawn 21 = .ok (.iconst 1, 1) := by decide +kernel
theorem dX0_countAtDawn_22 : decode cX0_countAtDawn 22 = .ok (.iadd, 1) := by decide +kernel
theorem dX0_countAtDawn_23 : decode cX0_countAtDawn 23 = .ok (.iastore, 1) := by decide +kernel
theorem dX0_countAtDawn_24 : decode cX0_countAtDawn 24 = .ok (.aload_n 0, 1) := by decide +kernel
theorem dX0_countAtDawn_25 : decode cX0_countAtDawn 25 = .ok (.getfield 11, 3) := by decide +kernel
theorem dX0_countAtDawn_28 : decode cX0_countAtDawn 28 = .ok (.bipush 6, 2) := by decide +kernel
theorem dX0_countAtDawn_30 : decode cX0_countAtDawn 30 = .ok (.aaload, 1) := by decide +kernel
theorem dX0_countAtDawn_31 : decode cX0_countAtDawn 31 = .ok (.iload_n 1, 1) := by decide +kernel
theorem dX0_countAtDawn_32 : decode cX0_countAtDawn 32 = .ok (.dup2, 1) := by decide +kernel
theorem dX0_countAtDawn_33 : decode cX0_countAtDawn 33 = .ok (.iaload, 1) := by decide +kernel
theorem dX0_countAtDawn_34 : decode cX0_countAtDawn 34 = .ok (.iconst 1, 1) := by decide +kernel
theorem dX0_countAtDawn_35 : decode cX0_countAtDawn 35 = .ok (.iadd, 1) := by decide +kernel
theorem dX0_countAtDawn_36 : decode cX0_countAtDawn 36 = .ok (.iastore, 1) := by decide +kernel
theorem dX0_countAtDawn_37 : decode cX0_countAtDawn 37 = .ok (.goto 70, 3) := by decide +kernel
theorem dX0_countAtDawn_40 : decode cX0_countAtDawn 40 = .ok (.iload_n 2, 1) := by decide +kernel
theorem dX0_countAtDawn_41 : decode cX0_countAtDawn 41 = .ok (.bipush 24, 2) := by decide +kernel
theorem dX0_countAtDawn_43 : decode cX0_countAtDawn 43 = .ok (.if_icmp .ne 16, 3) := by decide +kernel
theorem dX0_countAtDawn_46 : decode cX0_countAtDawn 46 = .ok (.aload_n 0, 1) := by decide +kernel
theorem dX0_countAtDawn_47 : decode cX0_countAtDawn 47 = .ok (.getfield 23, 3) := by decide +kernel
theorem dX0_countAtDawn_50 : decode cX0_countAtDawn 50 = .ok (.iconst 2, 1) := by decide +kernel
theorem dX0_countAtDawn_51 : decode cX0_countAtDawn 51 = .ok (.dup2, 1) := by decide +kernel
theorem dX0_countAtDawn_52 : decode cX0_countAtDawn 52 = .ok (.iaload, 1) := by decide +kernel
theorem dX0_countAtDawn_53 : decode cX0_countAtDawn 53 = .ok (.iconst 1, 1) := by decide +kernel
theorem dX0_countAtDawn_54 : decode cX0_countAtDawn 54 = .ok (.iadd, 1) := by decide +kernel
theorem dX0_countAtDawn_55 : decode cX0_countAtDawn 55 = .ok (.iastore, 1) := by decide +kernel
theorem dX0_countAtDawn_56 : decode cX0_countAtDawn 56 = .ok (.goto 51, 3) := by decide +kernel
theorem dX0_countAtDawn_59 : decode cX0_countAtDawn 59 = .ok (.iload_n 2, 1) := by decide +kernel
theorem dX0_countAtDawn_60 : decode cX0_countAtDawn 60 = .ok (.aload_n 0, 1) := by decide +kernel
theorem dX0_countAtDawn_61 : decode cX0_countAtDawn 61 = .ok (.getfield 11, 3) := by decide +kernel
theorem dX0_countAtDawn_64 : decode cX0_countAtDawn 64 = .ok (.iconst 0, 1) := by decide +kernel
theorem dX0_countAtDawn_65 : decode cX0_countAtDawn 65 = .ok (.aaload, 1) := by decide +kernel
theorem dX0_countAtDawn_66 : decode cX0_countAtDawn 66 = .ok (.iload_n 1, 1) := by decide +kernel
theorem dX0_countAtDawn_67 : decode cX0_countAtDawn 67 = .ok (.iaload, 1) := by decide +kernel
theorem dX0_countAtDawn_68 : decode cX0_countAtDawn 68 = .ok (.if_icmp .ne 29, 3) := by decide +kernel
theorem dX0_countAtDawn_71 : decode cX0_countAtDawn 71 = .ok (.aload_n 0, 1) := by decide +kernel
theorem dX0_countAtDawn_72 : decode cX0_countAtDawn 72 = .ok (.getfield 23, 3) := by decide +kernel
theorem dX0_countAtDawn_75 : decode cX0_countAtDawn 75 = .ok (.iconst 0, 1) := by decide +kernel
theorem dX0_countAtDawn_76 : decode cX0_countAtDawn 76 = .ok (.dup2, 1) := by decide +kernel
theorem dX0_countAtDawn_77 : decode cX0_countAtDawn 77 = .ok (.iaload, 1) := by decide +kernel
theorem dX0_countAtDawn_78 : decode cX0_countAtDawn 78 = .ok (.iconst 1, 1) := by decide +kernel
theorem dX0_countAtDawn_79 : decode cX0_countAtDawn 79 = .ok (.iadd, 1) := by decide +kernel
theorem dX0_countAtDawn_80 : decode cX0_countAtDawn 80 = .ok (.iastore, 1) := by decide +kernel
theorem dX0_countAtDawn_81 : decode cX0_countAtDawn 81 = .ok (.aload_n 0, 1) := by decide +kernel
theorem dX0_countAtDawn_82 : decode cX0_countAtDawn 82 = .ok (.getfield 11, 3) := by decide +kernel
theorem dX0_countAtDawn_85 : decode cX0_countAtDawn 85 = .ok (.bipush 7, 2) := by decide +kernel
theorem dX0_countAtDawn_87 : decode cX0_countAtDawn 87 = .ok (.aaload, 1) := by decide +kernel
theorem dX0_countAtDawn_88 : decode cX0_countAtDawn 88 = .ok (.iload_n 1, 1) := by decide +kernel
theorem dX0_countAtDawn_89 : decode cX0_countAtDawn 89 = .ok (.dup2, 1) := by decide +kernel
theorem dX0_countAtDawn_90 : decode cX0_countAtDawn 90 = .ok (.iaload, 1) := by decide +kernel
theorem dX0_countAtDawn_91 : decode cX0_countAtDawn 91 = .ok (.iconst 1, 1) := by decide +kernel
theorem dX0_countAtDawn_92 : decode cX0_countAtDawn 92 = .ok (.iadd, 1) := by decide +kernel
theorem dX0_countAtDawn_93 : decode cX0_countAtDawn 93 = .ok (.iastore, 1) := by decide +kernel
theorem dX0_countAtDawn_94 : decode cX0_countAtDawn 94 = .ok (.goto 13, 3) := by decide +kernel
theorem dX0_countAtDawn_97 : decode cX0_countAtDawn 97 = .ok (.aload_n 0, 1) := by decide +kernel
theorem dX0_countAtDawn_98 : decode cX0_countAtDawn 98 = .ok (.getfield 23, 3) := by decide +kernel
theorem dX0_countAtDawn_101 : decode cX0_countAtDawn 101 = .ok (.iconst 1, 1) := by decide +kernel
theorem dX0_countAtDawn_102 : decode cX0_countAtDawn 102 = .ok (.dup2, 1) := by decide +kernel
theorem dX0_countAtDawn_103 : decode cX0_countAtDawn 103 = .ok (.iaload, 1) := by decide +kernel
theorem dX0_countAtDawn_104 : decode cX0_countAtDawn 104 = .ok (.iconst 1, 1) := by decide +kernel
theorem dX0_countAtDawn_105 : decode cX0_countAtDawn 105 = .ok (.iadd, 1) := by decide +kernel
theorem dX0_countAtDawn_106 : decode cX0_countAtDawn 106 = .ok (.iastore, 1) := by decide +kernel
theorem dX0_countAtDawn_107 : decode cX0_countAtDawn 107 = .ok (.return_, 1) := by decide +kernel
end
section
theorem dX1_init_0 : decode cX1_init 0 = .ok (.aload_n 0, 1) := by decide +kernel
theorem dX1_init_1 : decode cX1_init 1 = .ok (.invokespecial 3, 3) := by decide +kernel
theorem dX1_init_4 : decode cX1_init 4 = .ok (.aload_n 0, 1) := by decide +kernel
theorem dX1_init_5 : decode cX1_init 5 = .ok (.iconst 0, 1) := by decide +kernel
theorem dX1_init_6 : decode cX1_init 6 = .ok (.putfield 11, 3) := by decide +kernel
theorem dX1_init_9 : decode cX1_init 9 = .ok (.aload_n 0, 1) := by decide +kernel
theorem dX1_init_10 : decode cX1_init 10 = .ok (.iconst 0, 1) := by decide +kernel
theorem dX1_init_11 : decode cX1_init 11 = .ok (.putfield 15, 3) := by decide +kernel
theorem dX1_init_14 : decode cX1_init 14 = .ok (.aload_n 0, 1) := by decide +kernel
theorem dX1_init_15 : decode cX1_init 15 = .ok (.iconst (-1), 1) := by decide +kernel
theorem dX1_init_16 : decode cX1_init 16 = .ok (.putfield 18, 3) := by decide +kernel
theorem dX1_init_19 : decode cX1_init 19 = .ok (.aload_n 0, 1) := by decide +kernel
theorem dX1_init_20 : decode cX1_init 20 = .ok (.iconst (-1), 1) := by decide +kernel
theorem dX1_init_21 : decode cX1_init 21 = .ok (.putfield 21, 3) := by decide +kernel
theorem dX1_init_24 : decode cX1_init 24 = .ok (.return_, 1) := by decide +kernel
theorem dX1_begin_0 : decode cX1_begin 0 = .ok (.aload_n 0, 1) := by decide +kernel
theorem dX1_begin_1 : decode cX1_begin 1 = .ok (.iconst 0, 1) := by decide +kernel
theorem dX1_begin_2 : decode cX1_begin 2 = .ok (.putfield 11, 3) := by decide +kernel
theorem dX1_begin_5 : decode cX1_begin 5 = .ok (.aload_n 0, 1) := by decide +kernel
theorem dX1_begin_6 : decode cX1_begin 6 = .ok (.iconst 0, 1) := by decide +kernel
theorem dX1_begin_7 : decode cX1_begin 7 = .ok (.putfield 15, 3) := by decide +kernel
theorem dX1_begin_10 : decode cX1_begin 10 = .ok (.aload_n 0, 1) := by decide +kernel
theorem dX1_begin_11 : decode cX1_begin 11 = .ok (.iconst (-1), 1) := by decide +kernel
theorem dX1_begin_12 : decode cX1_begin 12 = .ok (.putfield 18, 3) := by decide +kernel
theorem dX1_begin_15 : decode cX1_begin 15 = .ok (.aload_n 0, 1) := by decide +kernel
theorem dX1_begin_16 : decode cX1_begin 16 = .ok (.iconst (-1), 1) := by decide +kernel
theorem dX1_begin_17 : decode cX1_begin 17 = .ok (.putfield 21, 3) := by decide +kernel
theorem dX1_begin_20 : decode cX1_begin 20 = .ok (.return_, 1) := by decide +kernel
set_option maxRecDepth 20000 in
theorem ggX1_take_X1_takeLetter : GoodIn wsX1_take wsX1_takeLetter := goodIn_r _ [6, 1, 7, 49, 50, 51, 52] (by decide +kernel) (by decide +kernel)
set_option maxRecDepth 20000 in
theorem gX1_take_X1_takeLetter : GoodIn wsX1_take (wsV RX1 24 RX1 yX1_takeLetter wsX1_takeLetter) := goodIn_app (goodIn_of _ (by decide +kernel)) ggX1_take_X1_takeLetter
set_option maxRecDepth 20000 in
theorem ggX1_take_X1_takeEnd : GoodIn wsX1_take wsX1_takeEnd := goodIn_r _ [11, 12, 13, 14, 5, 15, 1, 16, 17, 18, 19, 20, 21, 7, 22, 23, 24, 25, 49, 50, 51, 52] (by decide +kernel) (by decide +kernel)
set_option maxRecDepth 20000 in
theorem gX1_take_X1_takeEnd : GoodIn wsX1_take (wsV RX1 28 RX1 yX1_takeEnd wsX1_takeEnd) := goodIn_app (goodIn_of _ (by decide +kernel)) ggX1_take_X1_takeEnd
set_option maxRecDepth 20000 in
theorem ggX1_take_X1_takeDigit : GoodIn wsX1_take wsX1_takeDigit := goodIn_r _ [29, 1, 16, 17, 30, 31, 5, 32, 33, 34, 35, 36, 7, 37, 38, 39, 40, 41, 42, 43, 44, 49, 50, 51, 52] (by decide +kernel) (by decide +kernel)
set_option maxRecDepth 20000 in
theorem gX1_take_X1_takeDigit : GoodIn wsX1_take (wsV RX1 32 RX1 yX1_takeDigit wsX1_takeDigit) := goodIn_app (goodIn_of _ (by decide +kernel)) ggX1_take_X1_takeDigit
set_option maxRecDepth 20000 in
theorem ggX1_take_X1_takeSign : GoodIn wsX1_take wsX1_takeSign := goodIn_r _ [48, 1, 16, 18, 19, 20, 5, 21, 7, 49, 50, 51, 52] (by decide +kernel) (by decide +kernel)
set_option maxRecDepth 20000 in
theorem gX1_take_X1_takeSign : GoodIn wsX1_take (wsV RX1 35 RX1 yX1_takeSign wsX1_takeSign) := goodIn_app (goodIn_of _ (by decide +kernel)) ggX1_take_X1_takeSign
theorem dX1_take_0 : decode cX1_take 0 = .ok (.aload_n 0, 1) := by decide +kernel
theorem dX1_take_1 : decode cX1_take 1 = .ok (.getfield 11, 3) := by decide +kernel
theorem dX1_take_4 : decode cX1_take 4 = .ok (.ifCond .ne 9, 3) := by decide +kernel
theorem dX1_take_7 : decode cX1_take 7 = .ok (.aload_n 0, 1) := by decide +kernel
theorem dX1_take_8 : decode cX1_take 8 = .ok (.iload_n 1, 1) := by decide +kernel
theorem dX1_take_9 : decode cX1_take 9 = .ok (.invokevirtual 24, 3) := by decide +kernel
theorem dX1_take_12 : decode cX1_take 12 = .ok (.ireturn, 1) := by decide +kernel
theorem dX1_take_13 : decode cX1_take 13 = .ok (.iload_n 1, 1) := by decide +kernel
theorem dX1_take_14 : decode cX1_take 14 = .ok (.bipush 59, 2) := by decide +kernel
theorem dX1_take_16 : decode cX1_take 16 = .ok (.if_icmp .ne 8, 3) := by decide +kernel
theorem dX1_take_19 : decode cX1_take 19 = .ok (.aload_n 0, 1) := by decide +kernel
theorem dX1_take_20 : decode cX1_take 20 = .ok (.invokevirtual 28, 3) := by decide +kernel
theorem dX1_take_23 : decode cX1_take 23 = .ok (.ireturn, 1) := by decide +kernel
theorem dX1_take_24 : decode cX1_take 24 = .ok (.iload_n 1, 1) := by decide +kernel
theorem dX1_take_25 : decode cX1_take 25 = .ok (.bipush 48, 2) := by decide +kernel
theorem dX1_take_27 : decode cX1_take 27 = .ok (.if_icmp .lt 18, 3) := by decide +kernel
theorem dX1_take_30 : decode cX1_take 30 = .ok (.iload_n 1, 1) := by decide +kernel
theorem dX1_take_31 : decode cX1_take 31 = .ok (.bipush 57, 2) := by decide +kernel
theorem dX1_take_33 : decode cX1_take 33 = .ok (.if_icmp .gt 12, 3) := by decide +kernel
theorem dX1_take_36 : decode cX1_take 36 = .ok (.aload_n 0, 1) := by decide +kernel
theorem dX1_take_37 : decode cX1_take 37 = .ok (.iload_n 1, 1) := by decide +kernel
theorem dX1_take_38 : decode cX1_take 38 = .ok (.bipush 48, 2) := by decide +kernel
theorem dX1_take_40 : decode cX1_take 40 = .ok (.isub, 1) := by decide +kernel
theorem dX1_take_41 : decode cX1_take 41 = .ok (.invokevirtual 32, 3) := by decide +kernel
theorem dX1_take_44 : decode cX1_take 44 = .ok (.ireturn, 1) := by decide +kernel
theorem dX1_take_45 : decode cX1_take 45 = .ok (.aload_n 0, 1) := by decide +kernel
theorem dX1_take_46 : decode cX1_take 46 = .ok (.iload_n 1, 1) := by decide +kernel
theorem dX1_take_47 : decode cX1_take 47 = .ok (.invokevirtual 35, 3) := by decide +kernel
theorem dX1_take_50 : decode cX1_take 50 = .ok (.ireturn, 1) := by decide +kernel
set_option maxRecDepth 20000 in
theorem ggX1_isComplete_X1_signBehindFirst : GoodIn wsX1_isComplete wsX1_signBehindFirst := goodIn_r _ [8, 9, 10, 11, 12, 13] (by decide +kernel) (by decide +kernel)
set_option maxRecDepth 20000 in
theorem gX1_isComplete_X1_signBehindFirst : GoodIn wsX1_isComplete (wsV RX1 38 RX1 yX1_signBehindFirst wsX1_signBehindFirst) := goodIn_app (goodIn_of _ (by decide +kernel)) ggX1_isComplete_X1_signBehindFirst
theorem dX1_isComplete_0 : decode cX1_isComplete 0 = .ok (.aload_n 0, 1) := by decide +kernel
theorem dX1_isComplete_1 : decode cX1_isComplete 1 = .ok (.getfield 11, 3) := by decide +kernel
theorem dX1_isComplete_4 : decode cX1_isComplete 4 = .ok (.iconst 1, 1) := by decide +kernel
theorem dX1_isComplete_5 : decode cX1_isComplete 5 = .ok (.if_icmp .ne 25, 3) := by decide +kernel
theorem dX1_isComplete_8 : decode cX1_isComplete 8 = .ok (.aload_n 0, 1) := by decide +kernel
theorem dX1_isComplete_9 : decode cX1_isComplete 9 = .ok (.getfield 18, 3) := by decide +kernel
theorem dX1_isComplete_12 : decode cX1_isComplete 12 = .ok (.iconst (-1), 1) := by decide +kernel
theorem dX1_isComplete_13 : decode cX1_isComplete 13 = .ok (.if_icmp .eq 15, 3) := by decide +kernel
theorem dX1_isComplete_16 : decode cX1_isComplete 16 = .ok (.aload_n 0, 1) := by decide +kernel
theorem dX1_isComplete_17 : decode cX1_isComplete 17 = .ok (.invokevirtual 38, 3) := by decide +kernel
theorem dX1_isComplete_20 : decode cX1_isComplete 20 = .ok (.iconst (-1), 1) := by decide +kernel
theorem dX1_isComplete_21 : decode cX1_isComplete 21 = .ok (.if_icmp .ne 7, 3) := by decide +kernel
theorem dX1_isComplete_24 : decode cX1_isComplete 24 = .ok (.iconst 1, 1) := by decide +kernel
theorem dX1_isComplete_25 : decode cX1_isComplete 25 = .ok (.goto 4, 3) := by decide +kernel
theorem dX1_isComplete_28 : decode cX1_isComplete 28 = .ok (.iconst 0, 1) := by decide +kernel
theorem dX1_isComplete_29 : decode cX1_isComplete 29 = .ok (.ireturn, 1) := by decide +kernel
theorem dX1_isComplete_30 : decode cX1_isComplete 30 = .ok (.aload_n 0, 1) := by decide +kernel
theorem dX1_isComplete_31 : decode cX1_isComplete 31 = .ok (.getfield 11, 3) := by decide +kernel
theorem dX1_isComplete_34 : decode cX1_isComplete 34 = .ok (.iconst 3, 1) := by decide +kernel
theorem dX1_isComplete_35 : decode cX1_isComplete 35 = .ok (.if_icmp .eq 19, 3) := by decide +kernel
theorem dX1_isComplete_38 : decode cX1_isComplete 38 = .ok (.aload_n 0, 1) := by decide +kernel
theorem dX1_isComplete_39 : decode cX1_isComplete 39 = .ok (.getfield 11, 3) := by decide +kernel
theorem dX1_isComplete_42 : decode cX1_isComplete 42 = .ok (.iconst 2, 1) := by decide +kernel
theorem dX1_isComplete_43 : decode cX1_isComplete 43 = .ok (.if_icmp .ne 15, 3) := by decide +kernel
theorem dX1_isComplete_46 : decode cX1_isComplete 46 = .ok (.aload_n 0, 1) := by decide +kernel
theorem dX1_isComplete_47 : decode cX1_isComplete 47 = .ok (.getfield 21, 3) := by decide +kernel
theorem dX1_isComplete_50 : decode cX1_isComplete 50 = .ok (.iconst (-1), 1) := by decide +kernel
theorem dX1_isComplete_51 : decode cX1_isComplete 51 = .ok (.if_icmp .eq 7, 3) := by decide +kernel
theorem dX1_isComplete_54 : decode cX1_isComplete 54 = .ok (.iconst 1, 1) := by decide +kernel
theorem dX1_isComplete_55 : decode cX1_isComplete 55 = .ok (.goto 4, 3) := by decide +kernel
theorem dX1_isComplete_58 : decode cX1_isComplete 58 = .ok (.iconst 0, 1) := by decide +kernel
theorem dX1_isComplete_59 : decode cX1_isComplete 59 = .ok (.ireturn, 1) := by decide +kernel
theorem dX1_takeLetter_0 : decode cX1_takeLetter 0 = .ok (.iload_n 1, 1) := by decide +kernel
theorem dX1_takeLetter_1 : decode cX1_takeLetter 1 = .ok (.lookupswitch 75 #[(94, 67), (98, 59), (104, 59), (109, 59), (111, 59), (120, 59)], 59) := by decide +kernel
theorem dX1_takeLetter_60 : decode cX1_takeLetter 60 = .ok (.aload_n 0, 1) := by decide +kernel
theorem dX1_takeLetter_61 : decode cX1_takeLetter 61 = .ok (.iconst 1, 1) := by decide +kernel
theorem dX1_takeLetter_62 : decode cX1_takeLetter 62 = .ok (.putfield 11, 3) := by decide +kernel
theorem dX1_takeLetter_65 : decode cX1_takeLetter 65 = .ok (.goto 13, 3) := by decide +kernel
theorem dX1_takeLetter_68 : decode cX1_takeLetter 68 = .ok (.aload_n 0, 1) := by decide +kernel
theorem dX1_takeLetter_69 : decode cX1_takeLetter 69 = .ok (.iconst 3, 1) := by decide +kernel
theorem dX1_takeLetter_70 : decode cX1_takeLetter 70 = .ok (.putfield 11, 3) := by decide +kernel
theorem dX1_takeLetter_73 : decode cX1_takeLetter 73 = .ok (.goto 5, 3) := by decide +kernel
theorem dX1_takeLetter_76 : decode cX1_takeLetter 76 = .ok (.iconst 0, 1) := by decide +kernel
theorem dX1_takeLetter_77 : decode cX1_takeLetter 77 = .ok (.ireturn, 1) := by decide +kernel
theorem dX1_takeLetter_78 : decode cX1_takeLetter 78 = .ok (.aload_n 0, 1) := by decide +kernel
theorem dX1_takeLetter_79 : decode cX1_takeLetter 79 = .ok (.iload_n 1, 1) := by decide +kernel
theorem dX1_takeLetter_80 : decode cX1_takeLetter 80 = .ok (.putfield 15, 3) := by decide +kernel
theorem dX1_takeLetter_83 : decode cX1_takeLetter 83 = .ok (.iconst 1, 1) := by decide +kernel
theorem dX1_takeLetter_84 : decode cX1_takeLetter 84 = .ok (.ireturn, 1) := by decide +kernel
set_option maxRecDepth 20000 in
theorem ggX1_takeEnd_X1_isComplete : GoodIn wsX1_takeEnd wsX1_isComplete := goodIn_r _ [5, 6, 7, 8, 9, 10, 11, 4, 12, 13, 18, 19, 20, 21] (by decide +kernel) (by decide +kernel)
set_option maxRecDepth 20000 in
theorem gX1_takeEnd_X1_isComplete : GoodIn wsX1_takeEnd (wsV RX1 42 RX1 yX1_isComplete wsX1_isComplete) := goodIn_app (goodIn_of _ (by decide +kernel)) ggX1_takeEnd_X1_isComplete
set_option maxRecDepth 20000 in
theorem ggX1_takeEnd_X1_begin : GoodIn wsX1_takeEnd wsX1_begin := goodIn_r _ [17, 6, 13, 7, 8, 18, 19, 20, 21] (by decide +kernel) (by decide +kernel)
set_option maxRecDepth 20000 in
theorem gX1_takeEnd_X1_begin : GoodIn wsX1_takeEnd (wsV RX1 45 RX1 yX1_begin wsX1_begin) := goodIn_app (goodIn_of _ (by decide +kernel)) ggX1_takeEnd_X1_begin
theorem dX1_takeEnd_0 : decode cX1_takeEnd 0 = .ok (.aload_n 0, 1) := by decide +kernel
theorem dX1_takeEnd_1 : decode cX1_takeEnd 1 = .ok (.invokevirtual 42, 3) := by decide +kernel
theorem dX1_takeEnd_4 : decode cX1_takeEnd 4 = .ok (.ifCond .ne 5, 3) := by decide +kernel
theorem dX1_takeEnd_7 : decode cX1_takeEnd 7 = .ok (.iconst 0, 1) := by decide +kernel
theorem dX1_takeEnd_8 : decode cX1_takeEnd 8 = .ok (.ireturn, 1) := by decide +kernel
theorem dX1_takeEnd_9 : decode cX1_takeEnd 9 = .ok (.aload_n 0, 1) := by decide +kernel
theorem dX1_takeEnd_10 : decode cX1_takeEnd 10 = .ok (.invokevirtual 45, 3) := by decide +kernel
theorem dX1_takeEnd_13 : decode cX1_takeEnd 13 = .ok (.iconst 1, 1) := by decide +kernel
theorem dX1_takeEnd_14 : decode cX1_takeEnd 14 = .ok (.ireturn, 1) := by decide +kernel
set_option maxRecDepth 20000 in
theorem ggX1_takeSign_X1_signBehindFirst : GoodIn wsX1_takeSign wsX1_signBehindFirst := goodIn_r _ [7, 8, 9, 10, 11, 12] (by decide +kernel) (by decide +kernel)
set_option maxRecDepth 20000 in
theorem gX1_takeSign_X1_signBehindFirst : GoodIn wsX1_takeSign (wsV RX1 38 RX1 yX1_signBehindFirst wsX1_signBehindFirst) := goodIn_app (goodIn_of _ (by decide +kernel)) ggX1_takeSign_X1_signBehindFirst
theorem dX1_takeSign_0 : decode cX1_takeSign 0 = .ok (.aload_n 0, 1) := by decide +kernel
theorem dX1_takeSign_1 : decode cX1_takeSign 1 = .ok (.getfield 11, 3) := by decide +kernel
theorem dX1_takeSign_4 : decode cX1_takeSign 4 = .ok (.iconst 1, 1) := by decide +kernel
theorem dX1_takeSign_5 : decode cX1_takeSign 5 = .ok (.if_icmp .ne 19, 3) := by decide +kernel
theorem dX1_takeSign_8 : decode cX1_takeSign 8 = .ok (.aload_n 0, 1) := by decide +kernel
theorem dX1_takeSign_9 : decode cX1_takeSign 9 = .ok (.getfield 18, 3) := by decide +kernel
theorem dX1_takeSign_12 : decode cX1_takeSign 12 = .ok (.iconst (-1), 1) := by decide +kernel
theorem dX1_takeSign_13 : decode cX1_takeSign 13 = .ok (.if_icmp .eq 11, 3) := by decide +kernel
theorem dX1_takeSign_16 : decode cX1_takeSign 16 = .ok (.iload_n 1, 1) := by decide +kernel
theorem dX1_takeSign_17 : decode cX1_takeSign 17 = .ok (.aload_n 0, 1) := by decide +kernel
theorem dX1_takeSign_18 : decode cX1_takeSign 18 = .ok (.invokevirtual 38, 3) := by decide +kernel
theorem dX1_takeSign_21 : decode cX1_takeSign 21 = .ok (.if_icmp .eq 5, 3) := by decide +kernel
theorem dX1_takeSign_24 : decode cX1_takeSign 24 = .ok (.iconst 0, 1) := by decide +kernel
theorem dX1_takeSign_25 : decode cX1_takeSign 25 = .ok (.ireturn, 1) := by decide +kernel
theorem dX1_takeSign_26 : decode cX1_takeSign 26 = .ok (.aload_n 0, 1) := by decide +kernel
theorem dX1_takeSign_27 : decode cX1_takeSign 27 = .ok (.iconst 2, 1) := by decide +kernel
theorem dX1_takeSign_28 : decode cX1_takeSign 28 = .ok (.putfield 11, 3) := by decide +kernel
theorem dX1_takeSign_31 : decode cX1_takeSign 31 = .ok (.iconst 1, 1) := by decide +kernel
theorem dX1_takeSign_32 : decode cX1_takeSign 32 = .ok (.ireturn, 1) := by decide +kernel
set_option maxRecDepth 20000 in
theorem ggX1_takeDigit_X1_grown : GoodIn wsX1_takeDigit wsX1_grown := goodIn_r _ [7] (by decide +kernel) (by decide +kernel)
set_option maxRecDepth 20000 in
theorem gX1_takeDigit_X1_grown : GoodIn wsX1_takeDigit (va_wsS RX1 48 yX1_grown wsX1_grown) := goodIn_app (goodIn_of _ (by decide +kernel)) ggX1_takeDigit_X1_grown
set_option maxRecDepth 20000 in
theorem ggX1_takeDigit_X1_highestFirst : GoodIn wsX1_takeDigit wsX1_highestFirst := goodIn_r _ [11, 12, 21, 22, 23, 24] (by decide +kernel) (by decide +kernel)
set_option maxRecDepth 20000 in
theorem gX1_takeDigit_X1_highestFirst : GoodIn wsX1_takeDigit (wsV RX1 52 RX1 yX1_highestFirst wsX1_highestFirst) := goodIn_app (goodIn_of _ (by decide +kernel)) ggX1_takeDigit_X1_highestFirst
set_option maxRecDepth 20000 in
theorem ggX1_takeDigit_X1_lowestSecond : GoodIn wsX1_takeDigit wsX1_lowestSecond := goodIn_r _ [16, 12, 21, 22, 23, 24] (by decide +kernel) (by decide +kernel)
set_option maxRecDepth 20000 in
theorem gX1_takeDigit_X1_lowestSecond : GoodIn wsX1_takeDigit (wsV RX1 55 RX1 yX1_lowestSecond wsX1_lowestSecond) := goodIn_app (goodIn_of _ (by decide +kernel)) ggX1_takeDigit_X1_lowestSecond
set_option maxRecDepth 20000 in
theorem ggX1_takeDigit_X1_highestSecond : GoodIn wsX1_takeDigit wsX1_highestSecond := goodIn_r _ [20, 12, 21, 22, 23, 24] (by decide +kernel) (by decide +kernel)
set_option maxRecDepth 20000 in
theorem gX1_takeDigit_X1_highestSecond : GoodIn wsX1_takeDigit (wsV RX1 58 RX1 yX1_highestSecond wsX1_highestSecond) := goodIn_app (goodIn_of _ (by decide +kernel)) ggX1_takeDigit_X1_highestSecond
theorem dX1_takeDigit_0 : decode cX1_takeDigit 0 = .ok (.aload_n 0, 1) := by decide +kernel
theorem dX1_takeDigit_1 : decode cX1_takeDigit 1 = .ok (.getfield 11, 3) := by decide +kernel
theorem dX1_takeDigit_4 : decode cX1_takeDigit 4 = .ok (.iconst 1, 1) := by decide +kernel
theorem dX1_takeDigit_5 : decode cX1_takeDigit 5 = .ok (.if_icmp .ne 34, 3) := by decide +kernel
theorem dX1_takeDigit_8 : decode cX1_takeDigit 8 = .ok (.aload_n 0, 1) := by decide +kernel
theorem dX1_takeDigit_9 : decode cX1_takeDigit 9 = .ok (.getfield 18, 3) := by decide +kernel
theorem dX1_takeDigit_12 : decode cX1_takeDigit 12 = .ok (.iload_n 1, 1) := by decide +kernel
theorem dX1_takeDigit_13 : decode cX1_takeDigit 13 = .ok (.invokestatic 48, 3) := by decide +kernel
theorem dX1_takeDigit_16 : decode cX1_takeDigit 16 = .ok (.istore_n 2, 1) := by decide +kernel
theorem dX1_takeDigit_17 : decode cX1_takeDigit 17 = .ok (.iload_n 2, 1) := by decide +kernel
theorem dX1_takeDigit_18 : decode cX1_takeDigit 18 = .ok (.iconst (-1), 1) := by decide +kernel
theorem dX1_takeDigit_19 : decode cX1_takeDigit 19 = .ok (.if_icmp .eq 11, 3) := by decide +kernel
theorem dX1_takeDigit_22 : decode cX1_takeDigit 22 = .ok (.iload_n 2, 1) := by decide +kernel
theorem dX1_takeDigit_23 : decode cX1_takeDigit 23 = .ok (.aload_n 0, 1) := by decide +kernel
theorem dX1_takeDigit_24 : decode cX1_takeDigit 24 = .ok (.invokevirtual 52, 3) := by decide +kernel
theorem dX1_takeDigit_27 : decode cX1_takeDigit 27 = .ok (.if_icmp .le 5, 3) := by decide +kernel
theorem dX1_takeDigit_30 : decode cX1_takeDigit 30 = .ok (.iconst 0, 1) := by decide +kernel
theorem dX1_takeDigit_31 : decode cX1_takeDigit 31 = .ok (.ireturn, 1) := by decide +kernel
theorem dX1_takeDigit_32 : decode cX1_takeDigit 32 = .ok (.aload_n 0, 1) := by decide +kernel
theorem dX1_takeDigit_33 : decode cX1_takeDigit 33 = .ok (.iload_n 2, 1) := by decide +kernel
theorem dX1_takeDigit_34 : decode cX1_takeDigit 34 = .ok (.putfield 18, 3) := by decide +kernel
theorem dX1_takeDigit_37 : decode cX1_takeDigit 37 = .ok (.iconst 1, 1) := by decide +kernel
theorem dX1_takeDigit_38 : decode cX1_takeDigit 38 = .ok (.ireturn, 1) := by decide +kernel
theorem dX1_takeDigit_39 : decode cX1_takeDigit 39 = .ok (.aload_n 0, 1) := by decide +kernel
theorem dX1_takeDigit_40 : decode cX1_takeDigit 40 = .ok (.getfield 11, 3) := by decide +kernel
theorem dX1_takeDigit_43 : decode cX1_takeDigit 43 = .ok (.iconst 2, 1) := by decide +kernel
theorem dX1_takeDigit_44 : decode cX1_takeDigit 44 = .ok (.if_icmp .ne 37, 3) := by decide +kernel
theorem dX1_takeDigit_47 : decode cX1_takeDigit 47 = .ok (.aload_n 0, 1) := by decide +kernel
theorem dX1_takeDigit_48 : decode cX1_takeDigit 48 = .ok (.getfield 21, 3) := by decide +kernel
theorem dX1_takeDigit_51 : decode cX1_takeDigit 51 = .ok (.iload_n 1, 1) := by decide +kernel
theorem dX1_takeDigit_52 : decode cX1_takeDigit 52 = .ok (.invokestatic 48, 3) := by decide +kernel
theorem dX1_takeDigit_55 : decode cX1_takeDigit 55 = .ok (.istore_n 2, 1) := by decide +kernel
theorem dX1_takeDigit_56 : decode cX1_takeDigit 56 = .ok (.iload_n 2, 1) := by decide +kernel
theorem dX1_takeDigit_57 : decode cX1_takeDigit 57 = .ok (.aload_n 0, 1) := by decide +kernel
theorem dX1_takeDigit_58 : decode cX1_takeDigit 58 = .ok (.invokevirtual 55, 3) := by decide +kernel
theorem dX1_takeDigit_61 : decode cX1_takeDigit 61 = .ok (.if_icmp .lt 11, 3) := by decide +kernel
theorem dX1_takeDigit_64 : decode cX1_takeDigit 64 = .ok (.iload_n 2, 1) := by decide +kernel
theorem dX1_takeDigit_65 : decode cX1_takeDigit 65 = .ok (.aload_n 0, 1) := by decide +kernel
theorem dX1_takeDigit_66 : decode cX1_takeDigit 66 = .ok (.invokevirtual 58, 3) := by decide +kernel
theorem dX1_takeDigit_69 : decode cX1_takeDigit 69 = .ok (.if_icmp .le 5, 3) := by decide +kernel
theorem dX1_takeDigit_72 : decode cX1_takeDigit 72 = .ok (.iconst 0, 1) := by decide +kernel
theorem dX1_takeDigit_73 : decode cX1_takeDigit 73 = .ok (.ireturn, 1) := by decide +kernel
theorem dX1_takeDigit_74 : decode cX1_takeDigit 74 = .ok (.aload_n 0, 1) := by decide +kernel
theorem dX1_takeDigit_75 : decode cX1_takeDigit 75 = .ok (.iload_n 2, 1) := by decide +kernel
theorem dX1_takeDigit_76 : decode cX1_takeDigit 76 = .ok (.putfield 21, 3) := by decide +kernel
theorem dX1_takeDigit_79 : decode cX1_takeDigit 79 = .ok (.iconst 1, 1) := by decide +kernel
theorem dX1_takeDigit_80 : decode cX1_takeDigit 80 = .ok (.ireturn, 1) := by decide +kernel
theorem dX1_takeDigit_81 : decode cX1_takeDigit 81 = .ok (.iconst 0, 1) := by decide +kernel
theorem dX1_takeDigit_82 : decode cX1_takeDigit 82 = .ok (.ireturn, 1) := by decide +kernel
theorem dX1_grown_0 : decode cX1_grown 0 = .ok (.iload_n 0, 1) := by decide +kernel
theorem dX1_grown_1 : decode cX1_grown 1 = .ok (.iconst (-1), 1) := by decide +kernel
theorem dX1_grown_2 : decode cX1_grown 2 = .ok (.if_icmp .ne 5, 3) := by decide +kernel
theorem dX1_grown_5 : decode cX1_grown 5 = .ok (.iload_n 1, 1) := by decide +kernel
theorem dX1_grown_6 : decode cX1_grown 6 = .ok (.ireturn, 1) := by decide +kernel
theorem dX1_grown_7 : decode cX1_grown 7 = .ok (.iload_n 0, 1) := by decide +kernel
theorem dX1_grown_8 : decode cX1_grown 8 = .ok (.ifCond .ne 7, 3) := by decide +kernel
theorem dX1_grown_11 : decode cX1_grown 11 = .ok (.iconst (-1), 1) := by decide +kernel
theorem dX1_grown_12 : decode cX1_grown 12 = .ok (.goto 9, 3) := by decide +kernel
theorem dX1_grown_15 : decode cX1_grown 15 = .ok (.iload_n 0, 1) := by decide +kernel
theorem dX1_grown_16 : decode cX1_grown 16 = .ok (.bipush 10, 2) := by decide +kernel
theorem dX1_grown_18 : decode cX1_grown 18 = .ok (.imul, 1) := by decide +kernel
theorem dX1_grown_19 : decode cX1_grown 19 = .ok (.iload_n 1, 1) := by decide +kernel
theorem dX1_grown_20 : decode cX1_grown 20 = .ok (.iadd, 1) := by decide +kernel
theorem dX1_grown_21 : decode cX1_grown 21 = .ok (.ireturn, 1) := by decide +kernel
theorem dX1_signBehindFirst_0 : decode cX1_signBehindFirst 0 = .ok (.aload_n 0, 1) := by decide +kernel
theorem dX1_signBehindFirst_1 : decode cX1_signBehindFirst 1 = .ok (.getfield 15, 3) := by decide +kernel
theorem dX1_signBehindFirst_4 : decode cX1_signBehindFirst 4 = .ok (.lookupswitch 45 #[(98, 39), (104, 36), (109, 42)], 36) := by decide +kernel
theorem dX1_signBehindFirst_40 : decode cX1_signBehindFirst 40 = .ok (.bipush 64, 2) := by decide +kernel
theorem dX1_signBehindFirst_42 : decode cX1_signBehindFirst 42 = .ok (.ireturn, 1) := by decide +kernel
theorem dX1_signBehindFirst_43 : decode cX1_signBehindFirst 43 = .ok (.bipush 33, 2) := by decide +kernel
theorem dX1_signBehindFirst_45 : decode cX1_signBehindFirst 45 = .ok (.ireturn, 1) := by decide +kernel
theorem dX1_signBehindFirst_46 : decode cX1_signBehindFirst 46 = .ok (.bipush 43, 2) := by decide +kernel
theorem dX1_signBehindFirst_48 : decode cX1_signBehindFirst 48 = .ok (.ireturn, 1) := by decide +kernel
theorem dX1_signBehindFirst_49 : decode cX1_signBehindFirst 49 = .ok (.iconst (-1), 1) := by decide +kernel
theorem dX1_signBehindFirst_50 : decode cX1_signBehindFirst 50 = .ok (.ireturn, 1) := by decide +kernel
theorem dX1_highestFirst_0 : decode cX1_highestFirst 0 = .ok (.aload_n 0, 1) := by decide +kernel
theorem dX1_highestFirst_1 : decode cX1_highestFirst 1 = .ok (.getfield 15, 3) := by decide +kernel
theorem dX1_highestFirst_4 : decode cX1_highestFirst 4 = .ok (.bipush 104, 2) := by decide +kernel
theorem dX1_highestFirst_6 : decode cX1_highestFirst 6 = .ok (.if_icmp .eq 12, 3) := by decide +kernel
theorem dX1_highestFirst_9 : decode cX1_highestFirst 9 = .ok (.aload_n 0, 1) := by decide +kernel
theorem dX1_highestFirst_10 : decode cX1_highestFirst 10 = .ok (.getfield 15, 3) := by decide +kernel
theorem dX1_highestFirst_13 : decode cX1_highestFirst 13 = .ok (.bipush 109, 2) := by decide +kernel
theorem dX1_highestFirst_15 : decode cX1_highestFirst 15 = .ok (.if_icmp .ne 8, 3) := by decide +kernel
theorem dX1_highestFirst_18 : decode cX1_highestFirst 18 = .ok (.bipush 15, 2) := by decide +kernel
theorem dX1_highestFirst_20 : decode cX1_highestFirst 20 = .ok (.goto 5, 3) := by decide +kernel
theorem dX1_highestFirst_23 : decode cX1_highestFirst 23 = .ok (.bipush 23, 2) := by decide +kernel
theorem dX1_highestFirst_25 : decode cX1_highestFirst 25 = .ok (.ireturn, 1) := by decide +kernel
theorem dX1_lowestSecond_0 : decode cX1_lowestSecond 0 = .ok (.aload_n 0, 1) := by decide +kernel
theorem dX1_lowestSecond_1 : decode cX1_lowestSecond 1 = .ok (.getfield 15, 3) := by decide +kernel
theorem dX1_lowestSecond_4 : decode cX1_lowestSecond 4 = .ok (.bipush 98, 2) := by decide +kernel
theorem dX1_lowestSecond_6 : decode cX1_lowestSecond 6 = .ok (.if_icmp .ne 7, 3) := by decide +kernel
theorem dX1_lowestSecond_9 : decode cX1_lowestSecond 9 = .ok (.iconst 1, 1) := by decide +kernel
theorem dX1_lowestSecond_10 : decode cX1_lowestSecond 10 = .ok (.goto 4, 3) := by decide +kernel
theorem dX1_lowestSecond_13 : decode cX1_lowestSecond 13 = .ok (.iconst 0, 1) := by decide +kernel
theorem dX1_lowestSecond_14 : decode cX1_lowestSecond 14 = .ok (.ireturn, 1) := by decide +kernel
theorem dX1_highestSecond_0 : decode cX1_highestSecond 0 = .ok (.aload_n 0, 1) := by decide +kernel
theorem dX1_highestSecond_1 : decode cX1_highestSecond 1 = .ok (.getfield 15, 3) := by decide +kernel
theorem dX1_highestSecond_4 : decode cX1_highestSecond 4 = .ok (.lookupswitch 35 #[(98, 32), (104, 28)], 28) := by decide +kernel
theorem dX1_highestSecond_32 : decode cX1_highestSecond 32 = .ok (.sipush 1439, 3) := by decide +kernel
theorem dX1_highestSecond_35 : decode cX1_highestSecond 35 = .ok (.ireturn, 1) := by decide +kernel
theorem dX1_highestSecond_36 : decode cX1_highestSecond 36 = .ok (.bipush 9, 2) := by decide +kernel
theorem dX1_highestSecond_38 : decode cX1_highestSecond 38 = .ok (.ireturn, 1) := by decide +kernel
theorem dX1_highestSecond_39 : decode cX1_highestSecond 39 = .ok (.bipush 15, 2) := by decide +kernel
theorem dX1_highestSecond_41 : decode cX1_highestSecond 41 = .ok (.ireturn, 1) := by decide +kernel
theorem dX2_init_0 : decode cX2_init 0 = .ok (.aload_n 0, 1) := by decide +kernel
theorem dX2_init_1 : decode cX2_init 1 = .ok (.invokespecial 3, 3) := by decide +kernel
theorem dX2_init_4 : decode cX2_init 4 = .ok (.aload_n 0, 1) := by decide +kernel
theorem dX2_init_5 : decode cX2_init 5 = .ok (.bipush 25, 2) := by decide +kernel
theorem dX2_init_7 : decode cX2_init 7 = .ok (.newarray .int, 2) := by decide +kernel
theorem dX2_init_9 : decode cX2_init 9 = .ok (.putfield 9, 3) := by decide +kernel
theorem dX2_init_12 : decode cX2_init 12 = .ok (.aload_n 0, 1) := by decide +kernel
theorem dX2_init_13 : decode cX2_init 13 = .ok (.bipush 25, 2) := by decide +kernel
theorem dX2_init_15 : decode cX2_init 15 = .ok (.newarray .int, 2) := by decide +kernel
theorem dX2_init_17 : decode cX2_init 17 = .ok (.putfield 15, 3) := by decide +kernel
theorem dX2_init_20 : decode cX2_init 20 = .ok (.aload_n 0, 1) := by decide +kernel
theorem dX2_init_21 : decode cX2_init 21 = .ok (.iconst 0, 1) := by decide +kernel
theorem dX2_init_22 : decode cX2_init 22 = .ok (.putfield 18, 3) := by decide +kernel
theorem dX2_init_25 : decode cX2_init 25 = .ok (.return_, 1) := by decide +kernel
theorem dX2_copyFrom_0 : decode cX2_copyFrom 0 = .ok (.aload_n 1, 1) := by decide +kernel
theorem dX2_copyFrom_1 : decode cX2_copyFrom 1 = .ok (.getfield 9, 3) := by decide +kernel
theorem dX2_copyFrom_4 : decode cX2_copyFrom 4 = .ok (.iconst 0, 1) := by decide +kernel
theorem dX2_copyFrom_5 : decode cX2_copyFrom 5 = .ok (.aload_n 0, 1) := by decide +kernel
theorem dX2_copyFrom_6 : decode cX2_copyFrom 6 = .ok (.getfield 9, 3) := by decide +kernel
theorem dX2_copyFrom_9 : decode cX2_copyFrom 9 = .ok (.iconst 0, 1) := by decide +kernel
theorem dX2_copyFrom_10 : decode cX2_copyFrom 10 = .ok (.bipush 25, 2) := by decide +kernel
theorem dX2_copyFrom_12 : decode cX2_copyFrom 12 = .ok (.invokestatic 22, 3) := by decide +kernel
theorem dX2_copyFrom_15 : decode cX2_copyFrom 15 = .ok (.aload_n 1, 1) := by decide +kernel
theorem dX2_copyFrom_16 : decode cX2_copyFrom 16 = .ok (.getfield 15, 3) := by decide +kernel
theorem dX2_copyFrom_19 : decode cX2_copyFrom 19 = .ok (.iconst 0, 1) := by decide +kernel
theorem dX2_copyFrom_20 : decode cX2_copyFrom 20 = .ok (.aload_n 0, 1) := by decide +kernel
theorem dX2_copyFrom_21 : decode cX2_copyFrom 21 = .ok (.getfield 15, 3) := by decide +kernel
theorem dX2_copyFrom_24 : decode cX2_copyFrom 24 = .ok (.iconst 0, 1) := by decide +kernel
theorem dX2_copyFrom_25 : decode cX2_copyFrom 25 = .ok (.bipush 25, 2) := by decide +kernel
theorem dX2_copyFrom_27 : decode cX2_copyFrom 27 = .ok (.invokestatic 22, 3) := by decide +kernel
theorem dX2_copyFrom_30 : decode cX2_copyFrom 30 = .ok (.aload_n 0, 1) := by decide +kernel
theorem dX2_copyFrom_31 : decode cX2_copyFrom 31 = .ok (.aload_n 1, 1) := by decide +kernel
theorem dX2_copyFrom_32 : decode cX2_copyFrom 32 = .ok (.getfield 18, 3) := by decide +kernel
theorem dX2_copyFrom_35 : decode cX2_copyFrom 35 = .ok (.putfield 18, 3) := by decide +kernel
theorem dX2_copyFrom_38 : decode cX2_copyFrom 38 = .ok (.return_, 1) := by decide +kernel
theorem dX2_note_0 : decode cX2_note 0 = .ok (.aload_n 0, 1) := by decide +kernel
theorem dX2_note_1 : decode cX2_note 1 = .ok (.getfield 18, 3) := by decide +kernel
theorem dX2_note_4 : decode cX2_note 4 = .ok (.bipush 24, 2) := by decide +kernel
theorem dX2_note_6 : decode cX2_note 6 = .ok (.if_icmp .gt 33, 3) := by decide +kernel
theorem dX2_note_9 : decode cX2_note 9 = .ok (.aload_n 0, 1) := by decide +kernel
theorem dX2_note_10 : decode cX2_note 10 = .ok (.getfield 9, 3) := by decide +kernel
theorem dX2_note_13 : decode cX2_note 13 = .ok (.aload_n 0, 1) := by decide +kernel
theorem dX2_note_14 : decode cX2_note 14 = .ok (.getfield 18, 3) := by decide +kernel
theorem dX2_note_17 : decode cX2_note 17 = .ok (.iload_n 1, 1) := by decide +kernel
theorem dX2_note_18 : decode cX2_note 18 = .ok (.iastore, 1) := by decide +kernel
theorem dX2_note_19 : decode cX2_note 19 = .ok (.aload_n 0, 1) := by decide +kernel
theorem dX2_note_20 : decode cX2_note 20 = .ok (.getfield 15, 3) := by decide +kernel
theorem dX2_note_23 : decode cX2_note 23 = .ok (.aload_n 0, 1) := by decide +kernel
theorem dX2_note_24 : decode cX2_note 24 = .ok (.getfield 18, 3) := by decide +kernel
theorem dX2_note_27 : decode cX2_note 27 = .ok (.iload_n 2, 1) := by decide +kernel
theorem dX2_note_28 : decode cX2_note 28 = .ok (.iastore, 1) := by decide +kernel
theorem dX2_note_29 : decode cX2_note 29 = .ok (.aload_n 0, 1) := by decide +kernel
theorem dX2_note_30 : decode cX2_note 30 = .ok (.dup, 1) := by decide +kernel
theorem dX2_note_31 : decode cX2_note 31 = .ok (.getfield 18, 3) := by decide +kernel
theorem dX2_note_34 : decode cX2_note 34 = .ok (.iconst 1, 1) := by decide +kernel
theorem dX2_note_35 : decode cX2_note 35 = .ok (.iadd, 1) := by decide +kernel
theorem dX2_note_36 : decode cX2_note 36 = .ok (.putfield 18, 3) := by decide +kernel
theorem dX2_note_39 : decode cX2_note 39 = .ok (.return_, 1) := by decide +kernel
theorem dX3_isHole_0 : decode cX3_isHole 0 = .ok (.iload_n 0, 1) := by decide +kernel
theorem dX3_isHole_1 : decode cX3_isHole 1 = .ok (.ifCond .lt 13, 3) := by decide +kernel
theorem dX3_isHole_4 : decode cX3_isHole 4 = .ok (.iload_n 0, 1) := by decide +kernel
theorem dX3_isHole_5 : decode cX3_isHole 5 = .ok (.bipush 24, 2) := by decide +kernel
theorem dX3_isHole_7 : decode cX3_isHole 7 = .ok (.if_icmp .ge 7, 3) := by decide +kernel
theorem dX3_isHole_10 : decode cX3_isHole 10 = .ok (.iconst 1, 1) := by decide +kernel
theorem dX3_isHole_11 : decode cX3_isHole 11 = .ok (.goto 4, 3) := by decide +kernel
theorem dX3_isHole_14 : decode cX3_isHole 14 = .ok (.iconst 0, 1) := by decide +kernel
theorem dX3_isHole_15 : decode cX3_isHole 15 = .ok (.ireturn, 1) := by decide +kernel
end
section
/-! the world: every cell of the system at fixed addresses; the judgement G (a walk over that world) and its rows -/
/-- machine numbers of classes, the addresses by block and place, the array classes int[], int[][], Cote[], long[] -/
abbrev gEn : Type := va_G × (Nat → Nat → Nat) × ClassId × ClassId × ClassId × ClassId
abbrev gSt : Type := Nat → Nat → Nat → Int32
/-- blocks: 0..8 cotes, 9 the LateDoves object with its array, buffer, reader; 10 the model; 11 the law's long[1] -/
def gV (i j : Nat) : Prop := (i < 9 ∧ j < 20) ∨ (i = 9 ∧ j < 4) ∨ (i = 10 ∧ j < 6) ∨ (i = 11 ∧ j < 1)
def gLc (j : Nat) : Nat := if j < 10 then 16 else if j < 14 then 24 else if j = 14 then 2 else if j = 15 then 4 else if j = 16 then 2 else 25
/-- the length of the int array at a place -/
def gN (i j : Nat) : Option Nat := if i < 9 then (if j = 0 ∨ j = 1 ∨ j = 10 ∨ j = 17 then none else some (gLc j)) else if i = 9 then (if j = 2 then some 60 else none) else if i = 10 then (if j = 0 then none else some (if j = 3 then 1392 else if j = 5 then 60 else 232)) else none
/-- the class of the object at a place -/
def gO (i j : Nat) : Option Nat := if i < 9 then (if j = 0 then some 0 else if j = 17 then some 2 else none) else if i = 9 then (if j = 0 then some 3 else if j = 3 then some 1 else none) else if i = 10 then (if j = 0 then some 4 else none) else none
def gFc (E : gEn) (c : Nat → Nat → Int32) (i : Nat) : List Value := [.ref (E.2.1 i 1), .ref (E.2.1 i 10), .ref (E.2.1 i 14), .ref (E.2.1 i 15), .ref (E.2.1 i 16), .ref (E.2.1 i 17), .int (c 0 6), .int (c 0 7), .int (c 0 8), .int (c 0 9)]
def gFw (E : gEn) (c : Nat → Nat → Int32) (i : Nat) : List Value := [.ref (E.2.1 i 18), .ref (E.2.1 i 19), .int (c 17 2)]
def gFm (E : gEn) (c : Nat → Nat → Int32) : List Value := [.ref (E.2.1 0 0), .ref (E.2.1 1 0), .ref (E.2.1 2 0), .int (c 0 3), .ref (E.2.1 9 1), .int (c 0 5), .ref (E.2.1 9 2), .int (c 0 7), .ref (E.2.1 9 3)]
def gFr (c : Nat → Nat → Int32) : List Value := [.int (c 3 0), .int (c 3 1), .int (c 3 2), .int (c 3 3)]
def gFd (E : gEn) (c : Nat → Nat → Int32) : List Value := [.int (c 0 0), .ref (E.2.1 10 1), .ref (E.2.1 10 2), .ref (E.2.1 10 3), .int (c 0 4), .ref (E.2.1 10 4), .int (c 0 6), .ref (E.2.1 10 5), .int (c 0 8), .int (c 0 9), .int (c 0 10), .int (c 0 11)]
/-- what the cell at a place holds -/
def gC (E : gEn) (σ : gSt) (π : Nat → Nat) (o : Int64) (i j : Nat) : va_E :=
  if i < 9 then
    (if j = 0 then .inr (0, gFc E (σ i) i)
     else if j = 1 then .inl (E.2.2.2.1, 8, .inr (.inr (.inr (.inr (fun k => some (E.2.1 i (2 + k)))))))
     else if j = 10 then .inl (E.2.2.2.1, 3, .inr (.inr (.inr (.inr (fun k => some (E.2.1 i (11 + k)))))))
     else if j = 17 then .inr (2, gFw E (σ i) i)
     else .inl (E.2.2.1, gLc j, .inl (σ i j)))
  else if i = 9 then
    (if j = 0 then .inr (3, gFm E (σ i))
     else if j = 1 then .inl (E.2.2.2.2.1, 6, .inr (.inr (.inr (.inr (fun k => some (E.2.1 (π k) 0))))))
     else if j = 2 then .inl (E.2.2.1, 60, .inl (σ i j))
     else .inr (1, gFr (σ i)))
  else if i = 10 then
    (if j = 0 then .inr (4, gFd E (σ i))
     else .inl (E.2.2.1, (if j = 3 then 1392 else if j = 5 then 60 else 232), .inl (σ i j)))
  else .inl (E.2.2.2.2.2, 1, .inr (.inl (fun _ => o)))
def CW (E : gEn) (σ : gSt) (π : Nat → Nat) (o : Int64) (H : Heap) : Prop := ∀ i j, gV i j → va_at E.1 vwCl (E.2.1 i j, gC E σ π o i j) H
def gA (E : gEn) : Nat → Prop := fun q => ∃ i j, gV i j ∧ q = E.2.1 i j
def gInj (E : gEn) : Prop := ∀ i j i' j', gV i j → gV i' j' → E.2.1 i j = E.2.1 i' j' → i = i' ∧ j = j'
def gTy (E : gEn) : List (ClassId × FieldType) := [(E.2.2.1, .int), (E.2.2.2.1, .array .int), (E.2.2.2.2.1, .object RX0), (E.2.2.2.2.2, .long)]
/-- the words of nest mates' private members -/
def gNst : List Cond := [.fieldLinkNest RX3 112 RX0 "settings" "[I" RX3, .fieldLinkNest RX3 154 RX0 "stop" "[I" RX3, .fieldLinkNest RX3 163 RX0 "day" "I" RX3, .fieldLinkNest RX3 170 RX0 "doves" "[[I" RX3, .fieldLinkNest RX3 176 RX0 "holes" "[[I" RX3, .fieldLinkNest RX3 186 RX0 "way" "LLateDoves$Way;" RX3, .fieldLinkNest RX3 190 RX2 "size" "I" RX3, .fieldLinkNest RX3 195 RX2 "who" "[I" RX3, .fieldLinkNest RX3 198 RX2 "where" "[I" RX3, .fieldLinkNest RX3 214 RX0 "time" "I" RX3, .fieldLinkNest RX3 272 RX1 "first" "I" RX3, .fieldLinkNest RX3 275 RX1 "second" "I" RX3, .fieldLinkNest RX3 278 RX1 "kind" "I" RX3, .fieldLinkNest RX3 293 RX0 "shifts" "I" RX3, .fieldLinkNest RX0 89 RX2 "size" "I" RX3, .methodLinkNest RX0 59 yX3_isHole RX3]
def gK (E : gEn) (U : State) : Prop := va_K E.1 vwCl (gTy E) U ∧ (∀ w ∈ gNst, va_Nw w U) ∧ gInj E
theorem gNst_warm {s U : State} (hW : s.WarmedH U.vm) (h : ∀ w ∈ gNst, va_Nw w s) : ∀ w ∈ gNst, va_Nw w U := by
  have H : ∀ w ∈ gNst, (∃ a i b n d h, w = Cond.fieldLinkNest a i b n d h) ∨ (∃ a i x h, w = Cond.methodLinkNest a i x h) := by
    intro w hw
    simp only [gNst, List.mem_cons, List.not_mem_nil, or_false] at hw
    rcases hw with rfl | rfl | rfl | rfl | rfl | rfl | rfl | rfl | rfl | rfl | rfl | rfl | rfl | rfl | rfl | rfl <;> first | exact Or.inl ⟨_, _, _, _, _, _, rfl⟩ | exact Or.inr ⟨_, _, _, _, rfl⟩
  intro w hw
  rcases H w hw with ⟨a, i, b, n, d, h2, rfl⟩ | ⟨a, i, x, h2, rfl⟩
  · exact va_Nw.warmF hW (h _ hw)
  · exact va_Nw.warmM hW (h _ hw)
theorem gNst_tab : ∀ w ∈ gNst, w.onTables = true := by decide +kernel
theorem gK.warm {E : gEn} {s U : State} (hW : s.WarmedH U.vm) (h : gK E s) : gK E U := ⟨va_K.moved hW.alike h.1, gNst_warm hW h.2.1, h.2.2⟩
theorem gK.call {E : gEn} {U : State} {g : JFrame} {mk : MethodId} {a : Array Value} (h : gK E U) : gK E (U.calling g mk a) := ⟨va_K.moved (u := U) (U := U.calling g mk a) (Vm.Alike.refl U.vm) h.1, fun w hw => va_Nw.same (u := U) (U := U.calling g mk a) (gNst_tab w hw) rfl (h.2.1 w hw), h.2.2⟩
def gU (σ : gSt) (i : Nat) (c : Nat → Nat → Int32) : gSt := fun i' => if i' = i then c else σ i'
def cW (c : Nat → Nat → Int32) (j d : Nat) (v : Int32) : Nat → Nat → Int32 := fun j' d' => if j' = j then (if d' = d then v else c j' d') else c j' d'
theorem gU_at (σ : gSt) (i : Nat) (c : Nat → Nat → Int32) : gU σ i c i = c := if_pos rfl
theorem gU_ne {σ : gSt} {i i' : Nat} {c : Nat → Nat → Int32} (h : i' ≠ i) : gU σ i c i' = σ i' := if_neg h
theorem gU_eta (σ : gSt) (i : Nat) : gU σ i (σ i) = σ := by
  funext i'
  by_cases h : i' = i
  · subst h; exact gU_at ..
  · exact gU_ne h
theorem gU_gU (σ : gSt) (i : Nat) (c c' : Nat → Nat → Int32) : gU (gU σ i c) i c' = gU σ i c' := by
  funext i'
  by_cases h : i' = i
  · subst h; rw [gU_at, gU_at]
  · rw [gU_ne h, gU_ne h, gU_ne h]
theorem gU_comm (σ : gSt) {i i' : Nat} (hn : i ≠ i') (c c' : Nat → Nat → Int32) : gU (gU σ i c) i' c' = gU (gU σ i' c') i c := by
  funext k
  by_cases h : k = i
  · subst h; rw [gU_ne hn, gU_at, gU_at]
  · by_cases h' : k = i'
    · subst h'; rw [gU_at, gU_ne h, gU_at]
    · rw [gU_ne h', gU_ne h, gU_ne h, gU_ne h']
theorem gC_arr {E : gEn} {σ : gSt} {π : Nat → Nat} {o : Int64} {i j n : Nat} (h : gN i j = some n) (hv : gV i j) : gC E σ π o i j = .inl (E.2.2.1, n, .inl (σ i j)) := by
  unfold gN at h
  unfold gC
  unfold gV at hv
  split at h
  · rename_i hi
    rw [if_pos hi]
    split at h
    · cases h
    · rename_i hj
      rw [if_neg (fun q => hj (Or.inl q)), if_neg (fun q => hj (Or.inr (Or.inl q))), if_neg (fun q => hj (Or.inr (Or.inr (Or.inl q)))), if_neg (fun q => hj (Or.inr (Or.inr (Or.inr q))))]
      cases h; rfl
  · rename_i hi
    rw [if_neg hi]
    split at h
    · rename_i hi9
      rw [if_pos hi9]
      split at h
      · rename_i hj
        subst hj
        cases h
        rfl
      · cases h
    · rename_i hi9
      rw [if_neg hi9]
      split at h
      · rename_i h10
        rw [if_pos h10]
        split at h
        · cases h
        · rename_i hj
          rw [if_neg hj]
          cases h; rfl
      · cases h
theorem gC_obj {E : gEn} {σ : gSt} {π : Nat → Nat} {o : Int64} {i j ci : Nat} (h : gO i j = some ci) : gV i j ∧ ∃ fs, gC E σ π o i j = .inr (ci, fs) := by
  unfold gO at h
  unfold gC gV
  split at h
  · rename_i hi
    rw [if_pos hi]
    split at h
    · rename_i hj; subst hj; cases h; exact ⟨Or.inl ⟨hi, by omega⟩, _, rfl⟩
    · split at h
      · rename_i hj; subst hj; cases h; exact ⟨Or.inl ⟨hi, by omega⟩, _, rfl⟩
      · cases h
  · rename_i hi
    rw [if_neg hi]
    split at h
    · rename_i hi9
      rw [if_pos hi9]
      split at h
      · rename_i hj; subst hj; cases h; exact ⟨Or.inr (Or.inl ⟨hi9, by omega⟩), _, rfl⟩
      · split at h
        · rename_i hj; subst hj; cases h; exact ⟨Or.inr (Or.inl ⟨hi9, by omega⟩), _, rfl⟩
        · cases h
    · rename_i hi9
      rw [if_neg hi9]
      split at h
      · rename_i h10
        rw [if_pos h10]
        split at h
        · rename_i hj; subst hj; cases h; exact ⟨Or.inr (Or.inr (Or.inl ⟨h10, by omega⟩)), _, rfl⟩
        · cases h
      · cases h
theorem CW.one {E : gEn} {σ : gSt} {π : Nat → Nat} {o : Int64} {H : Heap} (h : CW E σ π o H) {i j : Nat} (hv : gV i j) {e : va_E} (he : gC E σ π o i j = e) : va_P E.1 vwCl [(E.2.1 i j, e)] H := by
  intro k q hk
  cases k with
  | zero => cases hk; rw [← he]; exact h i j hv
  | succ k => simp at hk
theorem CW.lt {E : gEn} {σ : gSt} {π : Nat → Nat} {o : Int64} {H : Heap} (h : CW E σ π o H) {i j : Nat} (hv : gV i j) : E.2.1 i j < H.size := (h i j hv).lt
theorem CW.kept {E : gEn} {σ : gSt} {π : Nat → Nat} {o : Int64} {H H1 : Heap} (h : CW E σ π o H) (hq : ∀ i j, gV i j → H1[E.2.1 i j]? = H[E.2.1 i j]?) : CW E σ π o H1 := fun i j hv => (h i j hv).kept (hq i j hv)
theorem CW.chg {E : gEn} {σ σ' : gSt} {π π' : Nat → Nat} {o o' : Int64} {H H1 : Heap} (h : CW E σ π o H) (hI : gInj E) {i j : Nat} (hv : gV i j) (hne : ∀ i' j', gV i' j' → ¬(i' = i ∧ j' = j) → gC E σ' π' o' i' j' = gC E σ π o i' j') {e : va_E} (he : gC E σ' π' o' i j = e) (hat : va_at E.1 vwCl (E.2.1 i j, e) H1) (oq : ∀ q, q ≠ E.2.1 i j → H1[q]? = H[q]?) : CW E σ' π' o' H1 := by
  intro i' j' hv'
  by_cases hh : i' = i ∧ j' = j
  · obtain ⟨rfl, rfl⟩ := hh; rw [he]; exact hat
  · rw [hne i' j' hv' hh]
    exact (h i' j' hv').kept (oq _ (fun q => hh (hI i' j' i j hv' hv q)))
theorem gCell_ext {cA : ClassId} {n : Nat} {f g : Nat → Int32} (h : ∀ d, d < n → f d = g d) : vp_cell cA (n, .inl f) = vp_cell cA (n, .inl g) := by
  rw [vp_cell_i, vp_cell_i]
  unfold arrV
  congr 1
  apply Array.ext
  · simp
  · intro k h1 h2
    simp at h1 h2 ⊢
    exact h k h1
/-- cells of other places keep what they hold -/
theorem gC_cW {E : gEn} {σ : gSt} {π : Nat → Nat} {o : Int64} {i j d i' j' : Nat} {v : Int32} (hne : ¬(i' = i ∧ j' = j)) (hv' : gV i' j') : gC E (gU σ i (cW (σ i) j d v)) π o i' j' = gC E σ π o i' j' := by
  by_cases hi : i' = i
  · subst hi
    have hj : j' ≠ j := fun q => hne ⟨rfl, q⟩
    have e : ∀ k, cW (σ i') j d v j' k = σ i' j' k := fun k => by simp [cW, hj]
    have e2 : cW (σ i') j d v j' = σ i' j' := funext e
    unfold gC
    rw [gU_at, e2]
    unfold gV at hv'
    by_cases h9 : i' < 9
    · rw [if_pos h9, if_pos h9]
      by_cases h0 : j' = 0
      · subst h0; simp only [gFc, e, if_true]
      · by_cases h17 : j' = 17
        · subst h17; simp [gFw, e]
        · simp only [h0, h17, if_false]
    · rw [if_neg h9, if_neg h9]
      by_cases hi9 : i' = 9
      · rw [if_pos hi9, if_pos hi9]
        have hjj : j' = 0 ∨ j' = 1 ∨ j' = 2 ∨ j' = 3 := by omega
        rcases hjj with rfl | rfl | rfl | rfl
        · simp only [gFm, e, if_true]
        · rfl
        · rfl
        · simp [gFr, e]
      · rw [if_neg hi9, if_neg hi9]
        by_cases h0 : j' = 0
        · subst h0; simp only [gFd, e, if_true]
        · simp only [h0, if_false]
  · unfold gC
    rw [gU_ne hi]
/-- an int array's place is written -/
theorem CW.put {E : gEn} {σ : gSt} {π : Nat → Nat} {o : Int64} {H H1 : Heap} (h : CW E σ π o H) (hI : gInj E) {i j n d : Nat} {v : Int32} (hv : gV i j) (hn : gN i j = some n) (hat : H1[E.2.1 i j]? = some (vp_cell E.2.2.1 (n, .inl (upd (σ i j) d v)))) (oq : ∀ q, q ≠ E.2.1 i j → H1[q]? = H[q]?) : CW E (gU σ i (cW (σ i) j d v)) π o H1 := by
  refine h.chg hI hv (fun i' j' hv' hne => gC_cW hne hv') (gC_arr hn hv) ?_ oq
  show H1[_]? = some (vp_cell _ _)
  rw [hat]
  congr 2
  congr 2
  funext k
  rw [gU_at]
  simp [cW, upd]
/-- an int array gets another one's contents, as far as its length goes -/
theorem CW.fill {E : gEn} {σ : gSt} {π : Nat → Nat} {o : Int64} {H H1 : Heap} (h : CW E σ π o H) (hI : gInj E) {i j n : Nat} {f g : Nat → Int32} (hv : gV i j) (hn : gN i j = some n) (hat : H1[E.2.1 i j]? = some (vp_cell E.2.2.1 (n, .inl f))) (hf : ∀ d, d < n → f d = g d) (oq : ∀ q, q ≠ E.2.1 i j → H1[q]? = H[q]?) (hne : ∀ i' j', gV i' j' → ¬(i' = i ∧ j' = j) → gC E (gU σ i (fun j' => if j' = j then g else σ i j')) π o i' j' = gC E σ π o i' j') : CW E (gU σ i (fun j' => if j' = j then g else σ i j')) π o H1 := by
  refine h.chg hI hv hne (gC_arr hn hv) ?_ oq
  show H1[_]? = some (vp_cell _ _)
  rw [hat, gCell_ext hf, gU_at, if_pos rfl]
def ix (x : Int32) : Nat := x.toNatClampNeg
theorem ix_nI {n : Nat} (h : n < 2 ^ 31) : ix (nI n) = n := nI_clamp h
def bI (b : Bool) : Int32 := if b = true then 1 else 0
theorem bI_t : bI true = 1 := rfl
theorem bI_f : bI false = 0 := rfl
theorem bI_0 {b : Bool} : bI b = 0 ↔ b = false := by cases b <;> decide
theorem bI_n0 {b : Bool} : ¬ bI b = 0 ↔ b = true := by cases b <;> decide
theorem bI_nar (b : Bool) : narrow .boolean (.int (bI b)) = .int (bI b) := by cases b <;> rfl
def gB (E : gEn) (σ : gSt) (π : Nat → Nat) (o : Int64) : State → Prop := fun U => CW E σ π o U.heap ∧ gK E U
def CtI (l : Launch) (y : MethodName) (ws : List Cond) (rm : Room) (E : gEn) (av : List Value) (σ : gSt) (π : Nat → Nat) (o : Int64) (r : Int32) (σ' : gSt) (π' : Nat → Nat) (o' : Int64) : Prop :=
  Met l y ws rm (va_Pc av (gB E σ π o)) (va_Qi (S := Unit) (fun x _ => x = r) (fun _ t => CW E σ' π' o' t.heap) (gA E)) 0 0 (gA E)
def CtL (l : Launch) (y : MethodName) (ws : List Cond) (rm : Room) (E : gEn) (av : List Value) (σ : gSt) (π : Nat → Nat) (o : Int64) (r : Int64) (σ' : gSt) (π' : Nat → Nat) (o' : Int64) : Prop :=
  Met l y ws rm (va_Pc av (gB E σ π o)) (va_Ql (S := Unit) (fun x _ => x = r) (fun _ t => CW E σ' π' o' t.heap) (gA E)) 0 0 (gA E)
def CtD (l : Launch) (y : MethodName) (ws : List Cond) (rm : Room) (E : gEn) (av : List Value) (σ : gSt) (π : Nat → Nat) (o : Int64) (r : UInt64) (σ' : gSt) (π' : Nat → Nat) (o' : Int64) : Prop :=
  Met l y ws rm (va_Pc av (gB E σ π o)) (va_Qd (S := Unit) (fun x _ => x = r) (fun _ t => CW E σ' π' o' t.heap) (gA E)) 0 0 (gA E)
def CtV (l : Launch) (y : MethodName) (ws : List Cond) (rm : Room) (E : gEn) (av : List Value) (σ : gSt) (π : Nat → Nat) (o : Int64) (σ' : gSt) (π' : Nat → Nat) (o' : Int64) : Prop :=
  Met l y ws rm (va_Pc av (gB E σ π o)) (va_Qv (S := Unit) (fun _ => True) (fun _ t => CW E σ' π' o' t.heap) (gA E)) 0 0 (gA E)
/-- the locals, by place; none: not known -/
def lvl (lv : List (Option Value)) : List (Nat × Value) := (List.range lv.length).filterMap (fun k => (lv.getD k none).map (fun v => (k, v)))
theorem lvl_mem {lv : List (Option Value)} {k : Nat} {v : Value} : (k, v) ∈ lvl lv ↔ lv[k]? = some (some v) := by
  unfold lvl
  rw [List.mem_filterMap]
  constructor
  · rintro ⟨i, hi, h⟩
    rw [List.mem_range] at hi
    rw [List.getD_eq_getElem?_getD, List.getElem?_eq_getElem hi] at h
    cases hx : lv[i] with
    | none => rw [hx] at h; simp at h
    | some y =>
      rw [hx] at h
      simp at h
      obtain ⟨rfl, rfl⟩ := h
      rw [List.getElem?_eq_getElem hi, hx]
  · intro h
    have hi : k < lv.length := (List.getElem?_eq_some_iff.mp h).1
    refine ⟨k, List.mem_range.mpr hi, ?_⟩
    rw [List.getD_eq_getElem?_getD, h]
    rfl
def lh (ls : Array Slot) (n : Nat) (lv : List (Option Value)) : Prop := lv_has ls n (lvl lv)
theorem lh.at {ls : Array Slot} {n : Nat} {lv : List (Option Value)} (h : lh ls n lv) {k : Nat} {v : Value} (hk : lv[k]? = some (some v)) : ls[k]? = some (.val v) := h.2.2 (k, v) (lvl_mem.mpr hk)
theorem lh.less {ls : Array Slot} {n : Nat} {lv lv' : List (Option Value)} (h : lh ls n lv) (hl : ∀ (k : Nat) (v : Value), lv'[k]? = some (some v) → lv[k]? = some (some v)) : lh ls n lv' := ⟨h.1, h.2.1, fun q hq => h.2.2 q (lvl_mem.mpr (hl q.1 q.2 (lvl_mem.mp hq)))⟩
theorem lh.filt {ls : Array Slot} {n i : Nat} {lv : List (Option Value)} {x : Value} {f : Nat × Value → Bool} (h : lv_has ls n ((i, x) :: (lvl lv).filter f)) (hf : ∀ (k : Nat) (v : Value), lv[k]? = some (some v) → k ≠ i → f (k, v) = true) : lh ls n (lv.set i (some x)) := by
  refine ⟨h.1, h.2.1, fun q hq => h.2.2 q ?_⟩
  have h1 := lvl_mem.mp hq
  by_cases hk : q.1 = i
  · rw [hk] at h1
    have hl : i < lv.length := by
      have := (List.getElem?_eq_some_iff.mp h1).1
      simpa using this
    rw [List.getElem?_set_self hl] at h1
    have e : q = (i, x) := by
      obtain ⟨a, b⟩ := q
      simp at hk h1 ⊢
      exact ⟨hk, h1.symm⟩
    rw [e]; exact List.mem_cons_self
  · rw [List.getElem?_set_ne (Ne.symm hk)] at h1
    exact List.mem_cons_of_mem _ (List.mem_filter.mpr ⟨lvl_mem.mpr h1, hf _ _ h1 hk⟩)
/-- no value of two slots ends at place i -/
def lv1 (lv : List (Option Value)) (i : Nat) : Bool := match i with
  | 0 => true
  | k + 1 => match lv.getD k none with
    | none => true
    | some v => v.category == 1
theorem lv1_ok {lv : List (Option Value)} {i k : Nat} {v : Value} (h : lv1 lv i = true) (hk : lv[k]? = some (some v)) : (!(k + 1 == i && v.category == 2)) = true := by
  cases i with
  | zero => simp
  | succ i =>
    by_cases e : k = i
    · subst e
      simp only [lv1, List.getD_eq_getElem?_getD, hk] at h
      simp at h
      simp [h]
    · simp [e]
theorem lh2 {ls : Array Slot} {n i : Nat} {lv : List (Option Value)} {x : Value} (h : lv_has ls n ((i, x) :: (lvl lv).filter (fun q => !(q.1 == i) && (!(q.1 == i + 1) && !(q.1 + 1 == i && q.2.category == 2))))) (h1 : lv1 lv i = true) : lh ls n ((lv.set i (some x)).set (i + 1) none) := by
  refine ⟨h.1, h.2.1, fun q hq => h.2.2 q ?_⟩
  have h2 := lvl_mem.mp hq
  by_cases hk1 : q.1 = i + 1
  · rw [hk1] at h2
    have hl : i + 1 < (lv.set i (some x)).length := by
      have := (List.getElem?_eq_some_iff.mp h2).1
      simpa using this
    rw [List.getElem?_set_self hl] at h2
    cases h2
  · rw [List.getElem?_set_ne (Ne.symm hk1)] at h2
    by_cases hk : q.1 = i
    · rw [hk] at h2
      have hl : i < lv.length := by
        have := (List.getElem?_eq_some_iff.mp h2).1
        simpa using this
      rw [List.getElem?_set_self hl] at h2
      have e : q = (i, x) := by
        obtain ⟨a, b⟩ := q
        simp at hk h2 ⊢
        exact ⟨hk, h2.symm⟩
      rw [e]; exact List.mem_cons_self
    · rw [List.getElem?_set_ne (Ne.symm hk)] at h2
      refine List.mem_cons_of_mem _ (List.mem_filter.mpr ⟨lvl_mem.mpr h2, ?_⟩)
      have := lv1_ok h1 h2
      simp only [Bool.and_eq_true]
      exact ⟨by simp [hk], by simp [hk1], this⟩
section GL
variable {p : Program} {l : Launch} {e : Env} {R : Room} {s : State} {m : MethodId} {args : Array Value} {below : List Frame} {meth : Method} {c : Code} {Q : State → Prop} {cc : ByteArray} {own : String} {Ts : List Cond} {nL cl sl : Nat} {E : gEn} {A : Nat → Prop} {σ σ' : gSt} {π π' : Nat → Nat} {o o' : Int64}
/-- what a method's walk stands on -/
def gCx (p : Program) (s : State) (m : MethodId) (c : Code) (cc : ByteArray) (nL : Nat) (own : String) (Ts : List Cond) (args : Array Value) (E : gEn) (A : Nat → Prop) (R : Room) (cl sl : Nat) : Prop := CallFix p m c cc nL s args Ts own ∧ gK E s ∧ (∀ q, gA E q → A q) ∧ cl ≤ R.cells ∧ sl ≤ R.slots
def G (p : Program) (l : Launch) (e : Env) (R : Room) (s : State) (m : MethodId) (args : Array Value) (below : List Frame) (meth : Method) (c : Code) (nL cl sl : Nat) (A : Nat → Prop) (Q : State → Prop) (E : gEn) (σ : gSt) (π : Nat → Nat) (o : Int64) (pc : Nat) (lv : List (Option Value)) (st : List Value) : Prop :=
  ∀ (H : Heap) (locs : List Loc) (ls : Array Slot), CW E σ π o H → va_S A s.heap H locs → lh ls nL lv → W p l e R s m args below meth c H locs cl sl Q (F0 m pc ls st)
theorem G.cast {pc : Nat} {lv lv' : List (Option Value)} {st st' : List Value} (h : G p l e R s m args below meth c nL cl sl A Q E σ' π' o' pc lv' st') (e1 : σ = σ') (e2 : π = π') (e3 : o = o') (e4 : lv = lv') (e5 : st = st') : G p l e R s m args below meth c nL cl sl A Q E σ π o pc lv st := by
  subst e1; subst e2; subst e3; subst e4; subst e5; exact h
theorem G.less {pc : Nat} {lv lv' : List (Option Value)} {st : List Value} (hl : ∀ (k : Nat) (v : Value), lv'[k]? = some (some v) → lv[k]? = some (some v)) (h : G p l e R s m args below meth c nL cl sl A Q E σ π o pc lv' st) : G p l e R s m args below meth c nL cl sl A Q E σ π o pc lv st :=
  fun H locs ls hW hS hl0 => h H locs ls hW hS (hl0.less hl)
theorem G.iconst (C : gCx p s m c cc nL own Ts args E A R cl sl) {pc : Nat}  {lv : List (Option Value)} {st : List Value} {n : Int} (v : Int32) (hd : decode cc pc = .ok (.iconst n, 1)) (hv : Int32.ofInt n = v) (k : G p l e R s m args below meth c nL cl sl A Q E σ π o (pc + 1) lv (.int v :: st)) : G p l e R s m args below meth c nL cl sl A Q E σ π o pc lv st :=
  fun H locs ls hW hS hl => lv_iconst C.1.1 C.1.2.1 hd hv (k H locs ls hW hS hl)
theorem G.bipush (C : gCx p s m c cc nL own Ts args E A R cl sl) {pc : Nat}  {lv : List (Option Value)} {st : List Value} {n : Int} (v : Int32) (hd : decode cc pc = .ok (.bipush n, 2)) (hv : (Int8.ofInt n).toInt32 = v) (k : G p l e R s m args below meth c nL cl sl A Q E σ π o (pc + 2) lv (.int v :: st)) : G p l e R s m args below meth c nL cl sl A Q E σ π o pc lv st :=
  fun H locs ls hW hS hl => lv_bipush C.1.1 C.1.2.1 hd hv (k H locs ls hW hS hl)
theorem G.sipush (C : gCx p s m c cc nL own Ts args E A R cl sl) {pc : Nat}  {lv : List (Option Value)} {st : List Value} {n : Int} (v : Int32) (hd : decode cc pc = .ok (.sipush n, 3)) (hv : (Int16.ofInt n).toInt32 = v) (k : G p l e R s m args below meth c nL cl sl A Q E σ π o (pc + 3) lv (.int v :: st)) : G p l e R s m args below meth c nL cl sl A Q E σ π o pc lv st :=
  fun H locs ls hW hS hl => lv_sipush C.1.1 C.1.2.1 hd hv (k H locs ls hW hS hl)
theorem G.lconst (C : gCx p s m c cc nL own Ts args E A R cl sl) {pc : Nat}  {lv : List (Option Value)} {st : List Value} {n : Fin 2} (v : Int64) (hd : decode cc pc = .ok (.lconst n, 1)) (hv : Int64.ofNat (n : Nat) = v) (k : G p l e R s m args below meth c nL cl sl A Q E σ π o (pc + 1) lv (.long v :: st)) : G p l e R s m args below meth c nL cl sl A Q E σ π o pc lv st :=
  fun H locs ls hW hS hl => lv_lconst C.1.1 C.1.2.1 hd hv (k H locs ls hW hS hl)
theorem G.ldc2 (C : gCx p s m c cc nL own Ts args E A R cl sl) {pc : Nat}  {lv : List (Option Value)} {st : List Value} {index : Nat} {v : Int64} (hc : (Jvm.Cond.constantLong own index v).before args s = true) (hd : decode cc pc = .ok (.ldc2_w index, 3)) (k : G p l e R s m args below meth c nL cl sl A Q E σ π o (pc + 3) lv (.long v :: st)) : G p l e R s m args below meth c nL cl sl A Q E σ π o pc lv st :=
  fun H locs ls hW hS hl => lv_ldc2 C.1.1 C.1.2.1 C.1.2.2.2.1 hc hd (k H locs ls hW hS hl)
theorem G.goto (C : gCx p s m c cc nL own Ts args E A R cl sl) {pc : Nat}  {lv : List (Option Value)} {st : List Value} {off : Int} (tgt : Nat) (hd : decode cc pc = .ok (.goto off, 3)) (ht : (pc : Int) + off = (tgt : Int)) (k : G p l e R s m args below meth c nL cl sl A Q E σ π o tgt lv st) : G p l e R s m args below meth c nL cl sl A Q E σ π o pc lv st :=
  fun H locs ls hW hS hl => lv_goto C.1.1 C.1.2.1 hd ht (k H locs ls hW hS hl)
theorem G.ild0 (C : gCx p s m c cc nL own Ts args E A R cl sl) {pc : Nat}   {r : List (Option Value)} {st : List Value} {x : Int32} (hd : decode cc pc = .ok (.iload 0, 2)) (k : G p l e R s m args below meth c nL cl sl A Q E σ π o (pc + 2) (some (.int x) :: r) (.int x :: st)) : G p l e R s m args below meth c nL cl sl A Q E σ π o pc (some (.int x) :: r) st :=
  fun H locs ls hW hS hl => lv_iload C.1.1 C.1.2.1 hd (hl.at rfl) (k H locs ls hW hS hl)
theorem G.ildn0 (C : gCx p s m c cc nL own Ts args E A R cl sl) {pc : Nat}   {r : List (Option Value)} {st : List Value} {x : Int32} (hd : decode cc pc = .ok (.iload_n 0, 1)) (k : G p l e R s m args below meth c nL cl sl A Q E σ π o (pc + 1) (some (.int x) :: r) (.int x :: st)) : G p l e R s m args below meth c nL cl sl A Q E σ π o pc (some (.int x) :: r) st :=
  fun H locs ls hW hS hl => lv_iload_n C.1.1 C.1.2.1 hd rfl (hl.at rfl) (k H locs ls hW hS hl)
theorem G.ist0 (C : gCx p s m c cc nL own Ts args E A R cl sl) {pc : Nat}  { b : Option Value} {r : List (Option Value)} {st : List Value} {x : Int32} (hd : decode cc pc = .ok (.istore 0, 2)) (hn : 0 < nL) (h1 : lv1 (b :: r) 0 = true) (k : G p l e R s m args below meth c nL cl sl A Q E σ π o (pc + 2) (some (.int x) :: r) st) : G p l e R s m args below meth c nL cl sl A Q E σ π o pc (b :: r) (.int x :: st) :=
  fun H locs ls hW hS hl => lv_istore C.1.1 C.1.2.1 hd hl hn rfl (fun ls' h' => k H locs ls' hW hS (lh.filt (lv := (b :: r)) h' (fun k v hk hne => by simp only [Bool.and_eq_true]; exact ⟨by simp [hne], lv1_ok h1 hk⟩)))
theorem G.istn0 (C : gCx p s m c cc nL own Ts args E A R cl sl) {pc : Nat}  { b : Option Value} {r : List (Option Value)} {st : List Value} {x : Int32} (hd : decode cc pc = .ok (.istore_n 0, 1)) (hn : 0 < nL) (h1 : lv1 (b :: r) 0 = true) (k : G p l e R s m args below meth c nL cl sl A Q E σ π o (pc + 1) (some (.int x) :: r) st) : G p l e R s m args below meth c nL cl sl A Q E σ π o pc (b :: r) (.int x :: st) :=
  fun H locs ls hW hS hl => lv_istore_n (i := 0) C.1.1 C.1.2.1 hd rfl hl hn rfl (fun ls' h' => k H locs ls' hW hS (lh.filt (lv := (b :: r)) h' (fun k v hk hne => by simp only [Bool.and_eq_true]; exact ⟨by simp [hne], lv1_ok h1 hk⟩)))
theorem G.ild1 (C : gCx p s m c cc nL own Ts args E A R cl sl) {pc : Nat}  {a0 : Option Value} {r : List (Option Value)} {st : List Value} {x : Int32} (hd : decode cc pc = .ok (.iload 1, 2)) (k : G p l e R s m args below meth c nL cl sl A Q E σ π o (pc + 2) (a0 :: some (.int x) :: r) (.int x :: st)) : G p l e R s m args below meth c nL cl sl A Q E σ π o pc (a0 :: some (.int x) :: r) st :=
  fun H locs ls hW hS hl => lv_iload C.1.1 C.1.2.1 hd (hl.at rfl) (k H locs ls hW hS hl)
theorem G.ildn1 (C : gCx p s m c cc nL own Ts args E A R cl sl) {pc : Nat}  {a0 : Option Value} {r : List (Option Value)} {st : List Value} {x : Int32} (hd : decode cc pc = .ok (.iload_n 1, 1)) (k : G p l e R s m args below meth c nL cl sl A Q E σ π o (pc + 1) (a0 :: some (.int x) :: r) (.int x :: st)) : G p l e R s m args below meth c nL cl sl A Q E σ π o pc (a0 :: some (.int x) :: r) st :=
  fun H locs ls hW hS hl => lv_iload_n C.1.1 C.1.2.1 hd rfl (hl.at rfl) (k H locs ls hW hS hl)
theorem G.ist1 (C : gCx p s m c cc nL own Ts args E A R cl sl) {pc : Nat}  {a0 b : Option Value} {r : List (Option Value)} {st : List Value} {x : Int32} (hd : decode cc pc = .ok (.istore 1, 2)) (hn : 1 < nL) (h1 : lv1 (a0 :: b :: r) 1 = true) (k : G p l e R s m args below meth c nL cl sl A Q E σ π o (pc + 2) (a0 :: some (.int x) :: r) st) : G p l e R s m args below meth c nL cl sl A Q E σ π o pc (a0 :: b :: r) (.int x :: st) :=
  fun H locs ls hW hS hl => lv_istore C.1.1 C.1.2.1 hd hl hn rfl (fun ls' h' => k H locs ls' hW hS (lh.filt (lv := (a0 :: b :: r)) h' (fun k v hk hne => by simp only [Bool.and_eq_true]; exact ⟨by simp [hne], lv1_ok h1 hk⟩)))
theorem G.istn1 (C : gCx p s m c cc nL own Ts args E A R cl sl) {pc : Nat}  {a0 b : Option Value} {r : List (Option Value)} {st : List Value} {x : Int32} (hd : decode cc pc = .ok (.istore_n 1, 1)) (hn : 1 < nL) (h1 : lv1 (a0 :: b :: r) 1 = true) (k : G p l e R s m args below meth c nL cl sl A Q E σ π o (pc + 1) (a0 :: some (.int x) :: r) st) : G p l e R s m args below meth c nL cl sl A Q E σ π o pc (a0 :: b :: r) (.int x :: st) :=
  fun H locs ls hW hS hl => lv_istore_n (i := 1) C.1.1 C.1.2.1 hd rfl hl hn rfl (fun ls' h' => k H locs ls' hW hS (lh.filt (lv := (a0 :: b :: r)) h' (fun k v hk hne => by simp only [Bool.and_eq_true]; exact ⟨by simp [hne], lv1_ok h1 hk⟩)))
theorem G.ild2 (C : gCx p s m c cc nL own Ts args E A R cl sl) {pc : Nat}  {a0 a1 : Option Value} {r : List (Option Value)} {st : List Value} {x : Int32} (hd : decode cc pc = .ok (.iload 2, 2)) (k : G p l e R s m args below meth c nL cl sl A Q E σ π o (pc + 2) (a0 :: a1 :: some (.int x) :: r) (.int x :: st)) : G p l e R s m args below meth c nL cl sl A Q E σ π o pc (a0 :: a1 :: some (.int x) :: r) st :=
  fun H locs ls hW hS hl => lv_iload C.1.1 C.1.2.1 hd (hl.at rfl) (k H locs ls hW hS hl)
theorem G.ildn2 (C : gCx p s m c cc nL own Ts args E A R cl sl) {pc : Nat}  {a0 a1 : Option Value} {r : List (Option Value)} {st : List Value} {x : Int32} (hd : decode cc pc = .ok (.iload_n 2, 1)) (k : G p l e R s m args below meth c nL cl sl A Q E σ π o (pc + 1) (a0 :: a1 :: some (.int x) :: r) (.int x :: st)) : G p l e R s m args below meth c nL cl sl A Q E σ π o pc (a0 :: a1 :: some (.int x) :: r) st :=
  fun H locs ls hW hS hl => lv_iload_n C.1.1 C.1.2.1 hd rfl (hl.at rfl) (k H locs ls hW hS hl)
theorem G.ist2 (C : gCx p s m c cc nL own Ts args E A R cl sl) {pc : Nat}  {a0 a1 b : Option Value} {r : List (Option Value)} {st : List Value} {x : Int32} (hd : decode cc pc = .ok (.istore 2, 2)) (hn : 2 < nL) (h1 : lv1 (a0 :: a1 :: b :: r) 2 = true) (k : G p l e R s m args below meth c nL cl sl A Q E σ π o (pc + 2) (a0 :: a1 :: some (.int x) :: r) st) : G p l e R s m args below meth c nL cl sl A Q E σ π o pc (a0 :: a1 :: b :: r) (.int x :: st) :=
  fun H locs ls hW hS hl => lv_istore C.1.1 C.1.2.1 hd hl hn rfl (fun ls' h' => k H locs ls' hW hS (lh.filt (lv := (a0 :: a1 :: b :: r)) h' (fun k v hk hne => by simp only [Bool.and_eq_true]; exact ⟨by simp [hne], lv1_ok h1 hk⟩)))
theorem G.istn2 (C : gCx p s m c cc nL own Ts args E A R cl sl) {pc : Nat}  {a0 a1 b : Option Value} {r : List (Option Value)} {st : List Value} {x : Int32} (hd : decode cc pc = .ok (.istore_n 2, 1)) (hn : 2 < nL) (h1 : lv1 (a0 :: a1 :: b :: r) 2 = true) (k : G p l e R s m args below meth c nL cl sl A Q E σ π o (pc + 1) (a0 :: a1 :: some (.int x) :: r) st) : G p l e R s m args below meth c nL cl sl A Q E σ π o pc (a0 :: a1 :: b :: r) (.int x :: st) :=
  fun H locs ls hW hS hl => lv_istore_n (i := 2) C.1.1 C.1.2.1 hd rfl hl hn rfl (fun ls' h' => k H locs ls' hW hS (lh.filt (lv := (a0 :: a1 :: b :: r)) h' (fun k v hk hne => by simp only [Bool.and_eq_true]; exact ⟨by simp [hne], lv1_ok h1 hk⟩)))
theorem G.ild3 (C : gCx p s m c cc nL own Ts args E A R cl sl) {pc : Nat}  {a0 a1 a2 : Option Value} {r : List (Option Value)} {st : List Value} {x : Int32} (hd : decode cc pc = .ok (.iload 3, 2)) (k : G p l e R s m args below meth c nL cl sl A Q E σ π o (pc + 2) (a0 :: a1 :: a2 :: some (.int x) :: r) (.int x :: st)) : G p l e R s m args below meth c nL cl sl A Q E σ π o pc (a0 :: a1 :: a2 :: some (.int x) :: r) st :=
  fun H locs ls hW hS hl => lv_iload C.1.1 C.1.2.1 hd (hl.at rfl) (k H locs ls hW hS hl)
theorem G.ildn3 (C : gCx p s m c cc nL own Ts args E A R cl sl) {pc : Nat}  {a0 a1 a2 : Option Value} {r : List (Option Value)} {st : List Value} {x : Int32} (hd : decode cc pc = .ok (.iload_n 3, 1)) (k : G p l e R s m args below meth c nL cl sl A Q E σ π o (pc + 1) (a0 :: a1 :: a2 :: some (.int x) :: r) (.int x :: st)) : G p l e R s m args below meth c nL cl sl A Q E σ π o pc (a0 :: a1 :: a2 :: some (.int x) :: r) st :=
  fun H locs ls hW hS hl => lv_iload_n C.1.1 C.1.2.1 hd rfl (hl.at rfl) (k H locs ls hW hS hl)
theorem G.ist3 (C : gCx p s m c cc nL own Ts args E A R cl sl) {pc : Nat}  {a0 a1 a2 b : Option Value} {r : List (Option Value)} {st : List Value} {x : Int32} (hd : decode cc pc = .ok (.istore 3, 2)) (hn : 3 < nL) (h1 : lv1 (a0 :: a1 :: a2 :: b :: r) 3 = true) (k : G p l e R s m args below meth c nL cl sl A Q E σ π o (pc + 2) (a0 :: a1 :: a2 :: some (.int x) :: r) st) : G p l e R s m args below meth c nL cl sl A Q E σ π o pc (a0 :: a1 :: a2 :: b :: r) (.int x :: st) :=
  fun H locs ls hW hS hl => lv_istore C.1.1 C.1.2.1 hd hl hn rfl (fun ls' h' => k H locs ls' hW hS (lh.filt (lv := (a0 :: a1 :: a2 :: b :: r)) h' (fun k v hk hne => by simp only [Bool.and_eq_true]; exact ⟨by simp [hne], lv1_ok h1 hk⟩)))
theorem G.istn3 (C : gCx p s m c cc nL own Ts args E A R cl sl) {pc : Nat}  {a0 a1 a2 b : Option Value} {r : List (Option Value)} {st : List Value} {x : Int32} (hd : decode cc pc = .ok (.istore_n 3, 1)) (hn : 3 < nL) (h1 : lv1 (a0 :: a1 :: a2 :: b :: r) 3 = true) (k : G p l e R s m args below meth c nL cl sl A Q E σ π o (pc + 1) (a0 :: a1 :: a2 :: some (.int x) :: r) st) : G p l e R s m args below meth c nL cl sl A Q E σ π o pc (a0 :: a1 :: a2 :: b :: r) (.int x :: st) :=
  fun H locs ls hW hS hl => lv_istore_n (i := 3) C.1.1 C.1.2.1 hd rfl hl hn rfl (fun ls' h' => k H locs ls' hW hS (lh.filt (lv := (a0 :: a1 :: a2 :: b :: r)) h' (fun k v hk hne => by simp only [Bool.and_eq_true]; exact ⟨by simp [hne], lv1_ok h1 hk⟩)))
theorem G.ild4 (C : gCx p s m c cc nL own Ts args E A R cl sl) {pc : Nat}  {a0 a1 a2 a3 : Option Value} {r : List (Option Value)} {st : List Value} {x : Int32} (hd : decode cc pc = .ok (.iload 4, 2)) (k : G p l e R s m args below meth c nL cl sl A Q E σ π o (pc + 2) (a0 :: a1 :: a2 :: a3 :: some (.int x) :: r) (.int x :: st)) : G p l e R s m args below meth c nL cl sl A Q E σ π o pc (a0 :: a1 :: a2 :: a3 :: some (.int x) :: r) st :=
  fun H locs ls hW hS hl => lv_iload C.1.1 C.1.2.1 hd (hl.at rfl) (k H locs ls hW hS hl)
theorem G.ist4 (C : gCx p s m c cc nL own Ts args E A R cl sl) {pc : Nat}  {a0 a1 a2 a3 b : Option Value} {r : List (Option Value)} {st : List Value} {x : Int32} (hd : decode cc pc = .ok (.istore 4, 2)) (hn : 4 < nL) (h1 : lv1 (a0 :: a1 :: a2 :: a3 :: b :: r) 4 = true) (k : G p l e R s m args below meth c nL cl sl A Q E σ π o (pc + 2) (a0 :: a1 :: a2 :: a3 :: some (.int x) :: r) st) : G p l e R s m args below meth c nL cl sl A Q E σ π o pc (a0 :: a1 :: a2 :: a3 :: b :: r) (.int x :: st) :=
  fun H locs ls hW hS hl => lv_istore C.1.1 C.1.2.1 hd hl hn rfl (fun ls' h' => k H locs ls' hW hS (lh.filt (lv := (a0 :: a1 :: a2 :: a3 :: b :: r)) h' (fun k v hk hne => by simp only [Bool.and_eq_true]; exact ⟨by simp [hne], lv1_ok h1 hk⟩)))
theorem G.ild5 (C : gCx p s m c cc nL own Ts args E A R cl sl) {pc : Nat}  {a0 a1 a2 a3 a4 : Option Value} {r : List (Option Value)} {st : List Value} {x : Int32} (hd : decode cc pc = .ok (.iload 5, 2)) (k : G p l e R s m args below meth c nL cl sl A Q E σ π o (pc + 2) (a0 :: a1 :: a2 :: a3 :: a4 :: some (.int x) :: r) (.int x :: st)) : G p l e R s m args below meth c nL cl sl A Q E σ π o pc (a0 :: a1 :: a2 :: a3 :: a4 :: some (.int x) :: r) st :=
  fun H locs ls hW hS hl => lv_iload C.1.1 C.1.2.1 hd (hl.at rfl) (k H locs ls hW hS hl)
theorem G.ist5 (C : gCx p s m c cc nL own Ts args E A R cl sl) {pc : Nat}  {a0 a1 a2 a3 a4 b : Option Value} {r : List (Option Value)} {st : List Value} {x : Int32} (hd : decode cc pc = .ok (.istore 5, 2)) (hn : 5 < nL) (h1 : lv1 (a0 :: a1 :: a2 :: a3 :: a4 :: b :: r) 5 = true) (k : G p l e R s m args below meth c nL cl sl A Q E σ π o (pc + 2) (a0 :: a1 :: a2 :: a3 :: a4 :: some (.int x) :: r) st) : G p l e R s m args below meth c nL cl sl A Q E σ π o pc (a0 :: a1 :: a2 :: a3 :: a4 :: b :: r) (.int x :: st) :=
  fun H locs ls hW hS hl => lv_istore C.1.1 C.1.2.1 hd hl hn rfl (fun ls' h' => k H locs ls' hW hS (lh.filt (lv := (a0 :: a1 :: a2 :: a3 :: a4 :: b :: r)) h' (fun k v hk hne => by simp only [Bool.and_eq_true]; exact ⟨by simp [hne], lv1_ok h1 hk⟩)))
theorem G.ild6 (C : gCx p s m c cc nL own Ts args E A R cl sl) {pc : Nat}  {a0 a1 a2 a3 a4 a5 : Option Value} {r : List (Option Value)} {st : List Value} {x : Int32} (hd : decode cc pc = .ok (.iload 6, 2)) (k : G p l e R s m args below meth c nL cl sl A Q E σ π o (pc + 2) (a0 :: a1 :: a2 :: a3 :: a4 :: a5 :: some (.int x) :: r) (.int x :: st)) : G p l e R s m args below meth c nL cl sl A Q E σ π o pc (a0 :: a1 :: a2 :: a3 :: a4 :: a5 :: some (.int x) :: r) st :=
  fun H locs ls hW hS hl => lv_iload C.1.1 C.1.2.1 hd (hl.at rfl) (k H locs ls hW hS hl)
theorem G.ist6 (C : gCx p s m c cc nL own Ts args E A R cl sl) {pc : Nat}  {a0 a1 a2 a3 a4 a5 b : Option Value} {r : List (Option Value)} {st : List Value} {x : Int32} (hd : decode cc pc = .ok (.istore 6, 2)) (hn : 6 < nL) (h1 : lv1 (a0 :: a1 :: a2 :: a3 :: a4 :: a5 :: b :: r) 6 = true) (k : G p l e R s m args below meth c nL cl sl A Q E σ π o (pc + 2) (a0 :: a1 :: a2 :: a3 :: a4 :: a5 :: some (.int x) :: r) st) : G p l e R s m args below meth c nL cl sl A Q E σ π o pc (a0 :: a1 :: a2 :: a3 :: a4 :: a5 :: b :: r) (.int x :: st) :=
  fun H locs ls hW hS hl => lv_istore C.1.1 C.1.2.1 hd hl hn rfl (fun ls' h' => k H locs ls' hW hS (lh.filt (lv := (a0 :: a1 :: a2 :: a3 :: a4 :: a5 :: b :: r)) h' (fun k v hk hne => by simp only [Bool.and_eq_true]; exact ⟨by simp [hne], lv1_ok h1 hk⟩)))
theorem G.ild7 (C : gCx p s m c cc nL own Ts args E A R cl sl) {pc : Nat}  {a0 a1 a2 a3 a4 a5 a6 : Option Value} {r : List (Option Value)} {st : List Value} {x : Int32} (hd : decode cc pc = .ok (.iload 7, 2)) (k : G p l e R s m args below meth c nL cl sl A Q E σ π o (pc + 2) (a0 :: a1 :: a2 :: a3 :: a4 :: a5 :: a6 :: some (.int x) :: r) (.int x :: st)) : G p l e R s m args below meth c nL cl sl A Q E σ π o pc (a0 :: a1 :: a2 :: a3 :: a4 :: a5 :: a6 :: some (.int x) :: r) st :=
  fun H locs ls hW hS hl => lv_iload C.1.1 C.1.2.1 hd (hl.at rfl) (k H locs ls hW hS hl)
theorem G.ist7 (C : gCx p s m c cc nL own Ts args E A R cl sl) {pc : Nat}  {a0 a1 a2 a3 a4 a5 a6 b : Option Value} {r : List (Option Value)} {st : List Value} {x : Int32} (hd : decode cc pc = .ok (.istore 7, 2)) (hn : 7 < nL) (h1 : lv1 (a0 :: a1 :: a2 :: a3 :: a4 :: a5 :: a6 :: b :: r) 7 = true) (k : G p l e R s m args below meth c nL cl sl A Q E σ π o (pc + 2) (a0 :: a1 :: a2 :: a3 :: a4 :: a5 :: a6 :: some (.int x) :: r) st) : G p l e R s m args below meth c nL cl sl A Q E σ π o pc (a0 :: a1 :: a2 :: a3 :: a4 :: a5 :: a6 :: b :: r) (.int x :: st) :=
  fun H locs ls hW hS hl => lv_istore C.1.1 C.1.2.1 hd hl hn rfl (fun ls' h' => k H locs ls' hW hS (lh.filt (lv := (a0 :: a1 :: a2 :: a3 :: a4 :: a5 :: a6 :: b :: r)) h' (fun k v hk hne => by simp only [Bool.and_eq_true]; exact ⟨by simp [hne], lv1_ok h1 hk⟩)))
theorem G.ild8 (C : gCx p s m c cc nL own Ts args E A R cl sl) {pc : Nat}  {a0 a1 a2 a3 a4 a5 a6 a7 : Option Value} {r : List (Option Value)} {st : List Value} {x : Int32} (hd : decode cc pc = .ok (.iload 8, 2)) (k : G p l e R s m args below meth c nL cl sl A Q E σ π o (pc + 2) (a0 :: a1 :: a2 :: a3 :: a4 :: a5 :: a6 :: a7 :: some (.int x) :: r) (.int x :: st)) : G p l e R s m args below meth c nL cl sl A Q E σ π o pc (a0 :: a1 :: a2 :: a3 :: a4 :: a5 :: a6 :: a7 :: some (.int x) :: r) st :=
  fun H locs ls hW hS hl => lv_iload C.1.1 C.1.2.1 hd (hl.at rfl) (k H locs ls hW hS hl)
theorem G.ist8 (C : gCx p s m c cc nL own Ts args E A R cl sl) {pc : Nat}  {a0 a1 a2 a3 a4 a5 a6 a7 b : Option Value} {r : List (Option Value)} {st : List Value} {x : Int32} (hd : decode cc pc = .ok (.istore 8, 2)) (hn : 8 < nL) (h1 : lv1 (a0 :: a1 :: a2 :: a3 :: a4 :: a5 :: a6 :: a7 :: b :: r) 8 = true) (k : G p l e R s m args below meth c nL cl sl A Q E σ π o (pc + 2) (a0 :: a1 :: a2 :: a3 :: a4 :: a5 :: a6 :: a7 :: some (.int x) :: r) st) : G p l e R s m args below meth c nL cl sl A Q E σ π o pc (a0 :: a1 :: a2 :: a3 :: a4 :: a5 :: a6 :: a7 :: b :: r) (.int x :: st) :=
  fun H locs ls hW hS hl => lv_istore C.1.1 C.1.2.1 hd hl hn rfl (fun ls' h' => k H locs ls' hW hS (lh.filt (lv := (a0 :: a1 :: a2 :: a3 :: a4 :: a5 :: a6 :: a7 :: b :: r)) h' (fun k v hk hne => by simp only [Bool.and_eq_true]; exact ⟨by simp [hne], lv1_ok h1 hk⟩)))
theorem G.ild9 (C : gCx p s m c cc nL own Ts args E A R cl sl) {pc : Nat}  {a0 a1 a2 a3 a4 a5 a6 a7 a8 : Option Value} {r : List (Option Value)} {st : List Value} {x : Int32} (hd : decode cc pc = .ok (.iload 9, 2)) (k : G p l e R s m args below meth c nL cl sl A Q E σ π o (pc + 2) (a0 :: a1 :: a2 :: a3 :: a4 :: a5 :: a6 :: a7 :: a8 :: some (.int x) :: r) (.int x :: st)) : G p l e R s m args below meth c nL cl sl A Q E σ π o pc (a0 :: a1 :: a2 :: a3 :: a4 :: a5 :: a6 :: a7 :: a8 :: some (.int x) :: r) st :=
  fun H locs ls hW hS hl => lv_iload C.1.1 C.1.2.1 hd (hl.at rfl) (k H locs ls hW hS hl)
theorem G.ist9 (C : gCx p s m c cc nL own Ts args E A R cl sl) {pc : Nat}  {a0 a1 a2 a3 a4 a5 a6 a7 a8 b : Option Value} {r : List (Option Value)} {st : List Value} {x : Int32} (hd : decode cc pc = .ok (.istore 9, 2)) (hn : 9 < nL) (h1 : lv1 (a0 :: a1 :: a2 :: a3 :: a4 :: a5 :: a6 :: a7 :: a8 :: b :: r) 9 = true) (k : G p l e R s m args below meth c nL cl sl A Q E σ π o (pc + 2) (a0 :: a1 :: a2 :: a3 :: a4 :: a5 :: a6 :: a7 :: a8 :: some (.int x) :: r) st) : G p l e R s m args below meth c nL cl sl A Q E σ π o pc (a0 :: a1 :: a2 :: a3 :: a4 :: a5 :: a6 :: a7 :: a8 :: b :: r) (.int x :: st) :=
  fun H locs ls hW hS hl => lv_istore C.1.1 C.1.2.1 hd hl hn rfl (fun ls' h' => k H locs ls' hW hS (lh.filt (lv := (a0 :: a1 :: a2 :: a3 :: a4 :: a5 :: a6 :: a7 :: a8 :: b :: r)) h' (fun k v hk hne => by simp only [Bool.and_eq_true]; exact ⟨by simp [hne], lv1_ok h1 hk⟩)))
theorem G.iinc0 (C : gCx p s m c cc nL own Ts args E A R cl sl) {pc : Nat}   {r : List (Option Value)} {st : List Value} {x : Int32} {n : Int} (v : Int32) (hd : decode cc pc = .ok (.iinc 0 n, 3)) (hn : 0 < nL) (h1 : lv1 (some (.int x) :: r) 0 = true) (hv : x + Int32.ofInt n = v) (k : G p l e R s m args below meth c nL cl sl A Q E σ π o (pc + 3) (some (.int v) :: r) st) : G p l e R s m args below meth c nL cl sl A Q E σ π o pc (some (.int x) :: r) st :=
  fun H locs ls hW hS hl => by
    obtain ⟨k0, hk0⟩ := List.getElem?_of_mem (lvl_mem (lv := (some (.int x) :: r)) (k := 0) (v := .int x) |>.mpr rfl)
    exact lv_iinc C.1.1 C.1.2.1 hd hl hk0 hv hn rfl (fun ls' h' => k H locs ls' hW hS (lh.filt (lv := (some (.int x) :: r)) h' (fun k v hk hne => by simp only [Bool.and_eq_true]; exact ⟨by simp [hne], lv1_ok h1 hk⟩)))
theorem G.iincN0 (C : gCx p s m c cc nL own Ts args E A R cl sl) {pc : Nat}   {r : List (Option Value)} {st : List Value} {x : Nat} (hd : decode cc pc = .ok (.iinc 0 1, 3)) (hn : 0 < nL) (h1 : lv1 (some (.int (nI x)) :: r) 0 = true) (k : G p l e R s m args below meth c nL cl sl A Q E σ π o (pc + 3) (some (.int (nI (x + 1))) :: r) st) : G p l e R s m args below meth c nL cl sl A Q E σ π o pc (some (.int (nI x)) :: r) st :=
  G.iinc0 C (nI (x + 1)) hd hn h1 (nI_1 x) k
theorem G.iinc1 (C : gCx p s m c cc nL own Ts args E A R cl sl) {pc : Nat}  {a0 : Option Value} {r : List (Option Value)} {st : List Value} {x : Int32} {n : Int} (v : Int32) (hd : decode cc pc = .ok (.iinc 1 n, 3)) (hn : 1 < nL) (h1 : lv1 (a0 :: some (.int x) :: r) 1 = true) (hv : x + Int32.ofInt n = v) (k : G p l e R s m args below meth c nL cl sl A Q E σ π o (pc + 3) (a0 :: some (.int v) :: r) st) : G p l e R s m args below meth c nL cl sl A Q E σ π o pc (a0 :: some (.int x) :: r) st :=
  fun H locs ls hW hS hl => by
    obtain ⟨k0, hk0⟩ := List.getElem?_of_mem (lvl_mem (lv := (a0 :: some (.int x) :: r)) (k := 1) (v := .int x) |>.mpr rfl)
    exact lv_iinc C.1.1 C.1.2.1 hd hl hk0 hv hn rfl (fun ls' h' => k H locs ls' hW hS (lh.filt (lv := (a0 :: some (.int x) :: r)) h' (fun k v hk hne => by simp only [Bool.and_eq_true]; exact ⟨by simp [hne], lv1_ok h1 hk⟩)))
theorem G.iincN1 (C : gCx p s m c cc nL own Ts args E A R cl sl) {pc : Nat}  {a0 : Option Value} {r : List (Option Value)} {st : List Value} {x : Nat} (hd : decode cc pc = .ok (.iinc 1 1, 3)) (hn : 1 < nL) (h1 : lv1 (a0 :: some (.int (nI x)) :: r) 1 = true) (k : G p l e R s m args below meth c nL cl sl A Q E σ π o (pc + 3) (a0 :: some (.int (nI (x + 1))) :: r) st) : G p l e R s m args below meth c nL cl sl A Q E σ π o pc (a0 :: some (.int (nI x)) :: r) st :=
  G.iinc1 C (nI (x + 1)) hd hn h1 (nI_1 x) k
theorem G.iinc2 (C : gCx p s m c cc nL own Ts args E A R cl sl) {pc : Nat}  {a0 a1 : Option Value} {r : List (Option Value)} {st : List Value} {x : Int32} {n : Int} (v : Int32) (hd : decode cc pc = .ok (.iinc 2 n, 3)) (hn : 2 < nL) (h1 : lv1 (a0 :: a1 :: some (.int x) :: r) 2 = true) (hv : x + Int32.ofInt n = v) (k : G p l e R s m args below meth c nL cl sl A Q E σ π o (pc + 3) (a0 :: a1 :: some (.int v) :: r) st) : G p l e R s m args below meth c nL cl sl A Q E σ π o pc (a0 :: a1 :: some (.int x) :: r) st :=
  fun H locs ls hW hS hl => by
    obtain ⟨k0, hk0⟩ := List.getElem?_of_mem (lvl_mem (lv := (a0 :: a1 :: some (.int x) :: r)) (k := 2) (v := .int x) |>.mpr rfl)
    exact lv_iinc C.1.1 C.1.2.1 hd hl hk0 hv hn rfl (fun ls' h' => k H locs ls' hW hS (lh.filt (lv := (a0 :: a1 :: some (.int x) :: r)) h' (fun k v hk hne => by simp only [Bool.and_eq_true]; exact ⟨by simp [hne], lv1_ok h1 hk⟩)))
theorem G.iincN2 (C : gCx p s m c cc nL own Ts args E A R cl sl) {pc : Nat}  {a0 a1 : Option Value} {r : List (Option Value)} {st : List Value} {x : Nat} (hd : decode cc pc = .ok (.iinc 2 1, 3)) (hn : 2 < nL) (h1 : lv1 (a0 :: a1 :: some (.int (nI x)) :: r) 2 = true) (k : G p l e R s m args below meth c nL cl sl A Q E σ π o (pc + 3) (a0 :: a1 :: some (.int (nI (x + 1))) :: r) st) : G p l e R s m args below meth c nL cl sl A Q E σ π o pc (a0 :: a1 :: some (.int (nI x)) :: r) st :=
  G.iinc2 C (nI (x + 1)) hd hn h1 (nI_1 x) k
theorem G.iinc3 (C : gCx p s m c cc nL own Ts args E A R cl sl) {pc : Nat}  {a0 a1 a2 : Option Value} {r : List (Option Value)} {st : List Value} {x : Int32} {n : Int} (v : Int32) (hd : decode cc pc = .ok (.iinc 3 n, 3)) (hn : 3 < nL) (h1 : lv1 (a0 :: a1 :: a2 :: some (.int x) :: r) 3 = true) (hv : x + Int32.ofInt n = v) (k : G p l e R s m args below meth c nL cl sl A Q E σ π o (pc + 3) (a0 :: a1 :: a2 :: some (.int v) :: r) st) : G p l e R s m args below meth c nL cl sl A Q E σ π o pc (a0 :: a1 :: a2 :: some (.int x) :: r) st :=
  fun H locs ls hW hS hl => by
    obtain ⟨k0, hk0⟩ := List.getElem?_of_mem (lvl_mem (lv := (a0 :: a1 :: a2 :: some (.int x) :: r)) (k := 3) (v := .int x) |>.mpr rfl)
    exact lv_iinc C.1.1 C.1.2.1 hd hl hk0 hv hn rfl (fun ls' h' => k H locs ls' hW hS (lh.filt (lv := (a0 :: a1 :: a2 :: some (.int x) :: r)) h' (fun k v hk hne => by simp only [Bool.and_eq_true]; exact ⟨by simp [hne], lv1_ok h1 hk⟩)))
theorem G.iincN3 (C : gCx p s m c cc nL own Ts args E A R cl sl) {pc : Nat}  {a0 a1 a2 : Option Value} {r : List (Option Value)} {st : List Value} {x : Nat} (hd : decode cc pc = .ok (.iinc 3 1, 3)) (hn : 3 < nL) (h1 : lv1 (a0 :: a1 :: a2 :: some (.int (nI x)) :: r) 3 = true) (k : G p l e R s m args below meth c nL cl sl A Q E σ π o (pc + 3) (a0 :: a1 :: a2 :: some (.int (nI (x + 1))) :: r) st) : G p l e R s m args below meth c nL cl sl A Q E σ π o pc (a0 :: a1 :: a2 :: some (.int (nI x)) :: r) st :=
  G.iinc3 C (nI (x + 1)) hd hn h1 (nI_1 x) k
theorem G.iinc4 (C : gCx p s m c cc nL own Ts args E A R cl sl) {pc : Nat}  {a0 a1 a2 a3 : Option Value} {r : List (Option Value)} {st : List Value} {x : Int32} {n : Int} (v : Int32) (hd : decode cc pc = .ok (.iinc 4 n, 3)) (hn : 4 < nL) (h1 : lv1 (a0 :: a1 :: a2 :: a3 :: some (.int x) :: r) 4 = true) (hv : x + Int32.ofInt n = v) (k : G p l e R s m args below meth c nL cl sl A Q E σ π o (pc + 3) (a0 :: a1 :: a2 :: a3 :: some (.int v) :: r) st) : G p l e R s m args below meth c nL cl sl A Q E σ π o pc (a0 :: a1 :: a2 :: a3 :: some (.int x) :: r) st :=
  fun H locs ls hW hS hl => by
    obtain ⟨k0, hk0⟩ := List.getElem?_of_mem (lvl_mem (lv := (a0 :: a1 :: a2 :: a3 :: some (.int x) :: r)) (k := 4) (v := .int x) |>.mpr rfl)
    exact lv_iinc C.1.1 C.1.2.1 hd hl hk0 hv hn rfl (fun ls' h' => k H locs ls' hW hS (lh.filt (lv := (a0 :: a1 :: a2 :: a3 :: some (.int x) :: r)) h' (fun k v hk hne => by simp only [Bool.and_eq_true]; exact ⟨by simp [hne], lv1_ok h1 hk⟩)))
theorem G.iincN4 (C : gCx p s m c cc nL own Ts args E A R cl sl) {pc : Nat}  {a0 a1 a2 a3 : Option Value} {r : List (Option Value)} {st : List Value} {x : Nat} (hd : decode cc pc = .ok (.iinc 4 1, 3)) (hn : 4 < nL) (h1 : lv1 (a0 :: a1 :: a2 :: a3 :: some (.int (nI x)) :: r) 4 = true) (k : G p l e R s m args below meth c nL cl sl A Q E σ π o (pc + 3) (a0 :: a1 :: a2 :: a3 :: some (.int (nI (x + 1))) :: r) st) : G p l e R s m args below meth c nL cl sl A Q E σ π o pc (a0 :: a1 :: a2 :: a3 :: some (.int (nI x)) :: r) st :=
  G.iinc4 C (nI (x + 1)) hd hn h1 (nI_1 x) k
theorem G.iinc5 (C : gCx p s m c cc nL own Ts args E A R cl sl) {pc : Nat}  {a0 a1 a2 a3 a4 : Option Value} {r : List (Option Value)} {st : List Value} {x : Int32} {n : Int} (v : Int32) (hd : decode cc pc = .ok (.iinc 5 n, 3)) (hn : 5 < nL) (h1 : lv1 (a0 :: a1 :: a2 :: a3 :: a4 :: some (.int x) :: r) 5 = true) (hv : x + Int32.ofInt n = v) (k : G p l e R s m args below meth c nL cl sl A Q E σ π o (pc + 3) (a0 :: a1 :: a2 :: a3 :: a4 :: some (.int v) :: r) st) : G p l e R s m args below meth c nL cl sl A Q E σ π o pc (a0 :: a1 :: a2 :: a3 :: a4 :: some (.int x) :: r) st :=
  fun H locs ls hW hS hl => by
    obtain ⟨k0, hk0⟩ := List.getElem?_of_mem (lvl_mem (lv := (a0 :: a1 :: a2 :: a3 :: a4 :: some (.int x) :: r)) (k := 5) (v := .int x) |>.mpr rfl)
    exact lv_iinc C.1.1 C.1.2.1 hd hl hk0 hv hn rfl (fun ls' h' => k H locs ls' hW hS (lh.filt (lv := (a0 :: a1 :: a2 :: a3 :: a4 :: some (.int x) :: r)) h' (fun k v hk hne => by simp only [Bool.and_eq_true]; exact ⟨by simp [hne], lv1_ok h1 hk⟩)))
theorem G.iincN5 (C : gCx p s m c cc nL own Ts args E A R cl sl) {pc : Nat}  {a0 a1 a2 a3 a4 : Option Value} {r : List (Option Value)} {st : List Value} {x : Nat} (hd : decode cc pc = .ok (.iinc 5 1, 3)) (hn : 5 < nL) (h1 : lv1 (a0 :: a1 :: a2 :: a3 :: a4 :: some (.int (nI x)) :: r) 5 = true) (k : G p l e R s m args below meth c nL cl sl A Q E σ π o (pc + 3) (a0 :: a1 :: a2 :: a3 :: a4 :: some (.int (nI (x + 1))) :: r) st) : G p l e R s m args below meth c nL cl sl A Q E σ π o pc (a0 :: a1 :: a2 :: a3 :: a4 :: some (.int (nI x)) :: r) st :=
  G.iinc5 C (nI (x + 1)) hd hn h1 (nI_1 x) k
theorem G.iinc6 (C : gCx p s m c cc nL own Ts args E A R cl sl) {pc : Nat}  {a0 a1 a2 a3 a4 a5 : Option Value} {r : List (Option Value)} {st : List Value} {x : Int32} {n : Int} (v : Int32) (hd : decode cc pc = .ok (.iinc 6 n, 3)) (hn : 6 < nL) (h1 : lv1 (a0 :: a1 :: a2 :: a3 :: a4 :: a5 :: some (.int x) :: r) 6 = true) (hv : x + Int32.ofInt n = v) (k : G p l e R s m args below meth c nL cl sl A Q E σ π o (pc + 3) (a0 :: a1 :: a2 :: a3 :: a4 :: a5 :: some (.int v) :: r) st) : G p l e R s m args below meth c nL cl sl A Q E σ π o pc (a0 :: a1 :: a2 :: a3 :: a4 :: a5 :: some (.int x) :: r) st :=
  fun H locs ls hW hS hl => by
    obtain ⟨k0, hk0⟩ := List.getElem?_of_mem (lvl_mem (lv := (a0 :: a1 :: a2 :: a3 :: a4 :: a5 :: some (.int x) :: r)) (k := 6) (v := .int x) |>.mpr rfl)
    exact lv_iinc C.1.1 C.1.2.1 hd hl hk0 hv hn rfl (fun ls' h' => k H locs ls' hW hS (lh.filt (lv := (a0 :: a1 :: a2 :: a3 :: a4 :: a5 :: some (.int x) :: r)) h' (fun k v hk hne => by simp only [Bool.and_eq_true]; exact ⟨by simp [hne], lv1_ok h1 hk⟩)))
theorem G.iincN6 (C : gCx p s m c cc nL own Ts args E A R cl sl) {pc : Nat}  {a0 a1 a2 a3 a4 a5 : Option Value} {r : List (Option Value)} {st : List Value} {x : Nat} (hd : decode cc pc = .ok (.iinc 6 1, 3)) (hn : 6 < nL) (h1 : lv1 (a0 :: a1 :: a2 :: a3 :: a4 :: a5 :: some (.int (nI x)) :: r) 6 = true) (k : G p l e R s m args below meth c nL cl sl A Q E σ π o (pc + 3) (a0 :: a1 :: a2 :: a3 :: a4 :: a5 :: some (.int (nI (x + 1))) :: r) st) : G p l e R s m args below meth c nL cl sl A Q E σ π o pc (a0 :: a1 :: a2 :: a3 :: a4 :: a5 :: some (.int (nI x)) :: r) st :=
  G.iinc6 C (nI (x + 1)) hd hn h1 (nI_1 x) k
theorem G.iinc7 (C : gCx p s m c cc nL own Ts args E A R cl sl) {pc : Nat}  {a0 a1 a2 a3 a4 a5 a6 : Option Value} {r : List (Option Value)} {st : List Value} {x : Int32} {n : Int} (v : Int32) (hd : decode cc pc = .ok (.iinc 7 n, 3)) (hn : 7 < nL) (h1 : lv1 (a0 :: a1 :: a2 :: a3 :: a4 :: a5 :: a6 :: some (.int x) :: r) 7 = true) (hv : x + Int32.ofInt n = v) (k : G p l e R s m args below meth c nL cl sl A Q E σ π o (pc + 3) (a0 :: a1 :: a2 :: a3 :: a4 :: a5 :: a6 :: some (.int v) :: r) st) : G p l e R s m args below meth c nL cl sl A Q E σ π o pc (a0 :: a1 :: a2 :: a3 :: a4 :: a5 :: a6 :: some (.int x) :: r) st :=
  fun H locs ls hW hS hl => by
    obtain ⟨k0, hk0⟩ := List.getElem?_of_mem (lvl_mem (lv := (a0 :: a1 :: a2 :: a3 :: a4 :: a5 :: a6 :: some (.int x) :: r)) (k := 7) (v := .int x) |>.mpr rfl)
    exact lv_iinc C.1.1 C.1.2.1 hd hl hk0 hv hn rfl (fun ls' h' => k H locs ls' hW hS (lh.filt (lv := (a0 :: a1 :: a2 :: a3 :: a4 :: a5 :: a6 :: some (.int x) :: r)) h' (fun k v hk hne => by simp only [Bool.and_eq_true]; exact ⟨by simp [hne], lv1_ok h1 hk⟩)))
theorem G.iincN7 (C : gCx p s m c cc nL own Ts args E A R cl sl) {pc : Nat}  {a0 a1 a2 a3 a4 a5 a6 : Option Value} {r : List (Option Value)} {st : List Value} {x : Nat} (hd : decode cc pc = .ok (.iinc 7 1, 3)) (hn : 7 < nL) (h1 : lv1 (a0 :: a1 :: a2 :: a3 :: a4 :: a5 :: a6 :: some (.int (nI x)) :: r) 7 = true) (k : G p l e R s m args below meth c nL cl sl A Q E σ π o (pc + 3) (a0 :: a1 :: a2 :: a3 :: a4 :: a5 :: a6 :: some (.int (nI (x + 1))) :: r) st) : G p l e R s m args below meth c nL cl sl A Q E σ π o pc (a0 :: a1 :: a2 :: a3 :: a4 :: a5 :: a6 :: some (.int (nI x)) :: r) st :=
  G.iinc7 C (nI (x + 1)) hd hn h1 (nI_1 x) k
theorem G.iinc8 (C : gCx p s m c cc nL own Ts args E A R cl sl) {pc : Nat}  {a0 a1 a2 a3 a4 a5 a6 a7 : Option Value} {r : List (Option Value)} {st : List Value} {x : Int32} {n : Int} (v : Int32) (hd : decode cc pc = .ok (.iinc 8 n, 3)) (hn : 8 < nL) (h1 : lv1 (a0 :: a1 :: a2 :: a3 :: a4 :: a5 :: a6 :: a7 :: some (.int x) :: r) 8 = true) (hv : x + Int32.ofInt n = v) (k : G p l e R s m args below meth c nL cl sl A Q E σ π o (pc + 3) (a0 :: a1 :: a2 :: a3 :: a4 :: a5 :: a6 :: a7 :: some (.int v) :: r) st) : G p l e R s m args below meth c nL cl sl A Q E σ π o pc (a0 :: a1 :: a2 :: a3 :: a4 :: a5 :: a6 :: a7 :: some (.int x) :: r) st :=
  fun H locs ls hW hS hl => by
    obtain ⟨k0, hk0⟩ := List.getElem?_of_mem (lvl_mem (lv := (a0 :: a1 :: a2 :: a3 :: a4 :: a5 :: a6 :: a7 :: some (.int x) :: r)) (k := 8) (v := .int x) |>.mpr rfl)
    exact lv_iinc C.1.1 C.1.2.1 hd hl hk0 hv hn rfl (fun ls' h' => k H locs ls' hW hS (lh.filt (lv := (a0 :: a1 :: a2 :: a3 :: a4 :: a5 :: a6 :: a7 :: some (.int x) :: r)) h' (fun k v hk hne => by simp only [Bool.and_eq_true]; exact ⟨by simp [hne], lv1_ok h1 hk⟩)))
theorem G.iincN8 (C : gCx p s m c cc nL own Ts args E A R cl sl) {pc : Nat}  {a0 a1 a2 a3 a4 a5 a6 a7 : Option Value} {r : List (Option Value)} {st : List Value} {x : Nat} (hd : decode cc pc = .ok (.iinc 8 1, 3)) (hn : 8 < nL) (h1 : lv1 (a0 :: a1 :: a2 :: a3 :: a4 :: a5 :: a6 :: a7 :: some (.int (nI x)) :: r) 8 = true) (k : G p l e R s m args below meth c nL cl sl A Q E σ π o (pc + 3) (a0 :: a1 :: a2 :: a3 :: a4 :: a5 :: a6 :: a7 :: some (.int (nI (x + 1))) :: r) st) : G p l e R s m args below meth c nL cl sl A Q E σ π o pc (a0 :: a1 :: a2 :: a3 :: a4 :: a5 :: a6 :: a7 :: some (.int (nI x)) :: r) st :=
  G.iinc8 C (nI (x + 1)) hd hn h1 (nI_1 x) k
theorem G.iinc9 (C : gCx p s m c cc nL own Ts args E A R cl sl) {pc : Nat}  {a0 a1 a2 a3 a4 a5 a6 a7 a8 : Option Value} {r : List (Option Value)} {st : List Value} {x : Int32} {n : Int} (v : Int32) (hd : decode cc pc = .ok (.iinc 9 n, 3)) (hn : 9 < nL) (h1 : lv1 (a0 :: a1 :: a2 :: a3 :: a4 :: a5 :: a6 :: a7 :: a8 :: some (.int x) :: r) 9 = true) (hv : x + Int32.ofInt n = v) (k : G p l e R s m args below meth c nL cl sl A Q E σ π o (pc + 3) (a0 :: a1 :: a2 :: a3 :: a4 :: a5 :: a6 :: a7 :: a8 :: some (.int v) :: r) st) : G p l e R s m args below meth c nL cl sl A Q E σ π o pc (a0 :: a1 :: a2 :: a3 :: a4 :: a5 :: a6 :: a7 :: a8 :: some (.int x) :: r) st :=
  fun H locs ls hW hS hl => by
    obtain ⟨k0, hk0⟩ := List.getElem?_of_mem (lvl_mem (lv := (a0 :: a1 :: a2 :: a3 :: a4 :: a5 :: a6 :: a7 :: a8 :: some (.int x) :: r)) (k := 9) (v := .int x) |>.mpr rfl)
    exact lv_iinc C.1.1 C.1.2.1 hd hl hk0 hv hn rfl (fun ls' h' => k H locs ls' hW hS (lh.filt (lv := (a0 :: a1 :: a2 :: a3 :: a4 :: a5 :: a6 :: a7 :: a8 :: some (.int x) :: r)) h' (fun k v hk hne => by simp only [Bool.and_eq_true]; exact ⟨by simp [hne], lv1_ok h1 hk⟩)))
theorem G.iincN9 (C : gCx p s m c cc nL own Ts args E A R cl sl) {pc : Nat}  {a0 a1 a2 a3 a4 a5 a6 a7 a8 : Option Value} {r : List (Option Value)} {st : List Value} {x : Nat} (hd : decode cc pc = .ok (.iinc 9 1, 3)) (hn : 9 < nL) (h1 : lv1 (a0 :: a1 :: a2 :: a3 :: a4 :: a5 :: a6 :: a7 :: a8 :: some (.int (nI x)) :: r) 9 = true) (k : G p l e R s m args below meth c nL cl sl A Q E σ π o (pc + 3) (a0 :: a1 :: a2 :: a3 :: a4 :: a5 :: a6 :: a7 :: a8 :: some (.int (nI (x + 1))) :: r) st) : G p l e R s m args below meth c nL cl sl A Q E σ π o pc (a0 :: a1 :: a2 :: a3 :: a4 :: a5 :: a6 :: a7 :: a8 :: some (.int (nI x)) :: r) st :=
  G.iinc9 C (nI (x + 1)) hd hn h1 (nI_1 x) k
theorem G.ald0 (C : gCx p s m c cc nL own Ts args E A R cl sl) {pc : Nat}   {r : List (Option Value)} {st : List Value} {x : Nat} (hd : decode cc pc = .ok (.aload 0, 2)) (k : G p l e R s m args below meth c nL cl sl A Q E σ π o (pc + 2) (some (.ref x) :: r) (.ref x :: st)) : G p l e R s m args below meth c nL cl sl A Q E σ π o pc (some (.ref x) :: r) st :=
  fun H locs ls hW hS hl => lv_aload C.1.1 C.1.2.1 hd (hl.at rfl) (k H locs ls hW hS hl)
theorem G.aldn0 (C : gCx p s m c cc nL own Ts args E A R cl sl) {pc : Nat}   {r : List (Option Value)} {st : List Value} {x : Nat} (hd : decode cc pc = .ok (.aload_n 0, 1)) (k : G p l e R s m args below meth c nL cl sl A Q E σ π o (pc + 1) (some (.ref x) :: r) (.ref x :: st)) : G p l e R s m args below meth c nL cl sl A Q E σ π o pc (some (.ref x) :: r) st :=
  fun H locs ls hW hS hl => lv_aload_n C.1.1 C.1.2.1 hd rfl (hl.at rfl) (k H locs ls hW hS hl)
theorem G.ast0 (C : gCx p s m c cc nL own Ts args E A R cl sl) {pc : Nat}  { b : Option Value} {r : List (Option Value)} {st : List Value} {x : Nat} (hd : decode cc pc = .ok (.astore 0, 2)) (hn : 0 < nL) (h1 : lv1 (b :: r) 0 = true) (k : G p l e R s m args below meth c nL cl sl A Q E σ π o (pc + 2) (some (.ref x) :: r) st) : G p l e R s m args below meth c nL cl sl A Q E σ π o pc (b :: r) (.ref x :: st) :=
  fun H locs ls hW hS hl => lv_astore C.1.1 C.1.2.1 hd hl hn rfl (fun ls' h' => k H locs ls' hW hS (lh.filt (lv := (b :: r)) h' (fun k v hk hne => by simp only [Bool.and_eq_true]; exact ⟨by simp [hne], lv1_ok h1 hk⟩)))
theorem G.astn0 (C : gCx p s m c cc nL own Ts args E A R cl sl) {pc : Nat}  { b : Option Value} {r : List (Option Value)} {st : List Value} {x : Nat} (hd : decode cc pc = .ok (.astore_n 0, 1)) (hn : 0 < nL) (h1 : lv1 (b :: r) 0 = true) (k : G p l e R s m args below meth c nL cl sl A Q E σ π o (pc + 1) (some (.ref x) :: r) st) : G p l e R s m args below meth c nL cl sl A Q E σ π o pc (b :: r) (.ref x :: st) :=
  fun H locs ls hW hS hl => lv_astore_n (i := 0) C.1.1 C.1.2.1 hd rfl hl hn rfl (fun ls' h' => k H locs ls' hW hS (lh.filt (lv := (b :: r)) h' (fun k v hk hne => by simp only [Bool.and_eq_true]; exact ⟨by simp [hne], lv1_ok h1 hk⟩)))
theorem G.ald1 (C : gCx p s m c cc nL own Ts args E A R cl sl) {pc : Nat}  {a0 : Option Value} {r : List (Option Value)} {st : List Value} {x : Nat} (hd : decode cc pc = .ok (.aload 1, 2)) (k : G p l e R s m args below meth c nL cl sl A Q E σ π o (pc + 2) (a0 :: some (.ref x) :: r) (.ref x :: st)) : G p l e R s m args below meth c nL cl sl A Q E σ π o pc (a0 :: some (.ref x) :: r) st :=
  fun H locs ls hW hS hl => lv_aload C.1.1 C.1.2.1 hd (hl.at rfl) (k H locs ls hW hS hl)
theorem G.aldn1 (C : gCx p s m c cc nL own Ts args E A R cl sl) {pc : Nat}  {a0 : Option Value} {r : List (Option Value)} {st : List Value} {x : Nat} (hd : decode cc pc = .ok (.aload_n 1, 1)) (k : G p l e R s m args below meth c nL cl sl A Q E σ π o (pc + 1) (a0 :: some (.ref x) :: r) (.ref x :: st)) : G p l e R s m args below meth c nL cl sl A Q E σ π o pc (a0 :: some (.ref x) :: r) st :=
  fun H locs ls hW hS hl => lv_aload_n C.1.1 C.1.2.1 hd rfl (hl.at rfl) (k H locs ls hW hS hl)
theorem G.ast1 (C : gCx p s m c cc nL own Ts args E A R cl sl) {pc : Nat}  {a0 b : Option Value} {r : List (Option Value)} {st : List Value} {x : Nat} (hd : decode cc pc = .ok (.astore 1, 2)) (hn : 1 < nL) (h1 : lv1 (a0 :: b :: r) 1 = true) (k : G p l e R s m args below meth c nL cl sl A Q E σ π o (pc + 2) (a0 :: some (.ref x) :: r) st) : G p l e R s m args below meth c nL cl sl A Q E σ π o pc (a0 :: b :: r) (.ref x :: st) :=
  fun H locs ls hW hS hl => lv_astore C.1.1 C.1.2.1 hd hl hn rfl (fun ls' h' => k H locs ls' hW hS (lh.filt (lv := (a0 :: b :: r)) h' (fun k v hk hne => by simp only [Bool.and_eq_true]; exact ⟨by simp [hne], lv1_ok h1 hk⟩)))
theorem G.astn1 (C : gCx p s m c cc nL own Ts args E A R cl sl) {pc : Nat}  {a0 b : Option Value} {r : List (Option Value)} {st : List Value} {x : Nat} (hd : decode cc pc = .ok (.astore_n 1, 1)) (hn : 1 < nL) (h1 : lv1 (a0 :: b :: r) 1 = true) (k : G p l e R s m args below meth c nL cl sl A Q E σ π o (pc + 1) (a0 :: some (.ref x) :: r) st) : G p l e R s m args below meth c nL cl sl A Q E σ π o pc (a0 :: b :: r) (.ref x :: st) :=
  fun H locs ls hW hS hl => lv_astore_n (i := 1) C.1.1 C.1.2.1 hd rfl hl hn rfl (fun ls' h' => k H locs ls' hW hS (lh.filt (lv := (a0 :: b :: r)) h' (fun k v hk hne => by simp only [Bool.and_eq_true]; exact ⟨by simp [hne], lv1_ok h1 hk⟩)))
theorem G.ald2 (C : gCx p s m c cc nL own Ts args E A R cl sl) {pc : Nat}  {a0 a1 : Option Value} {r : List (Option Value)} {st : List Value} {x : Nat} (hd : decode cc pc = .ok (.aload 2, 2)) (k : G p l e R s m args below meth c nL cl sl A Q E σ π o (pc + 2) (a0 :: a1 :: some (.ref x) :: r) (.ref x :: st)) : G p l e R s m args below meth c nL cl sl A Q E σ π o pc (a0 :: a1 :: some (.ref x) :: r) st :=
  fun H locs ls hW hS hl => lv_aload C.1.1 C.1.2.1 hd (hl.at rfl) (k H locs ls hW hS hl)
theorem G.aldn2 (C : gCx p s m c cc nL own Ts args E A R cl sl) {pc : Nat}  {a0 a1 : Option Value} {r : List (Option Value)} {st : List Value} {x : Nat} (hd : decode cc pc = .ok (.aload_n 2, 1)) (k : G p l e R s m args below meth c nL cl sl A Q E σ π o (pc + 1) (a0 :: a1 :: some (.ref x) :: r) (.ref x :: st)) : G p l e R s m args below meth c nL cl sl A Q E σ π o pc (a0 :: a1 :: some (.ref x) :: r) st :=
  fun H locs ls hW hS hl => lv_aload_n C.1.1 C.1.2.1 hd rfl (hl.at rfl) (k H locs ls hW hS hl)
theorem G.ast2 (C : gCx p s m c cc nL own Ts args E A R cl sl) {pc : Nat}  {a0 a1 b : Option Value} {r : List (Option Value)} {st : List Value} {x : Nat} (hd : decode cc pc = .ok (.astore 2, 2)) (hn : 2 < nL) (h1 : lv1 (a0 :: a1 :: b :: r) 2 = true) (k : G p l e R s m args below meth c nL cl sl A Q E σ π o (pc + 2) (a0 :: a1 :: some (.ref x) :: r) st) : G p l e R s m args below meth c nL cl sl A Q E σ π o pc (a0 :: a1 :: b :: r) (.ref x :: st) :=
  fun H locs ls hW hS hl => lv_astore C.1.1 C.1.2.1 hd hl hn rfl (fun ls' h' => k H locs ls' hW hS (lh.filt (lv := (a0 :: a1 :: b :: r)) h' (fun k v hk hne => by simp only [Bool.and_eq_true]; exact ⟨by simp [hne], lv1_ok h1 hk⟩)))
theorem G.astn2 (C : gCx p s m c cc nL own Ts args E A R cl sl) {pc : Nat}  {a0 a1 b : Option Value} {r : List (Option Value)} {st : List Value} {x : Nat} (hd : decode cc pc = .ok (.astore_n 2, 1)) (hn : 2 < nL) (h1 : lv1 (a0 :: a1 :: b :: r) 2 = true) (k : G p l e R s m args below meth c nL cl sl A Q E σ π o (pc + 1) (a0 :: a1 :: some (.ref x) :: r) st) : G p l e R s m args below meth c nL cl sl A Q E σ π o pc (a0 :: a1 :: b :: r) (.ref x :: st) :=
  fun H locs ls hW hS hl => lv_astore_n (i := 2) C.1.1 C.1.2.1 hd rfl hl hn rfl (fun ls' h' => k H locs ls' hW hS (lh.filt (lv := (a0 :: a1 :: b :: r)) h' (fun k v hk hne => by simp only [Bool.and_eq_true]; exact ⟨by simp [hne], lv1_ok h1 hk⟩)))
theorem G.ald3 (C : gCx p s m c cc nL own Ts args E A R cl sl) {pc : Nat}  {a0 a1 a2 : Option Value} {r : List (Option Value)} {st : List Value} {x : Nat} (hd : decode cc pc = .ok (.aload 3, 2)) (k : G p l e R s m args below meth c nL cl sl A Q E σ π o (pc + 2) (a0 :: a1 :: a2 :: some (.ref x) :: r) (.ref x :: st)) : G p l e R s m args below meth c nL cl sl A Q E σ π o pc (a0 :: a1 :: a2 :: some (.ref x) :: r) st :=
  fun H locs ls hW hS hl => lv_aload C.1.1 C.1.2.1 hd (hl.at rfl) (k H locs ls hW hS hl)
theorem G.aldn3 (C : gCx p s m c cc nL own Ts args E A R cl sl) {pc : Nat}  {a0 a1 a2 : Option Value} {r : List (Option Value)} {st : List Value} {x : Nat} (hd : decode cc pc = .ok (.aload_n 3, 1)) (k : G p l e R s m args below meth c nL cl sl A Q E σ π o (pc + 1) (a0 :: a1 :: a2 :: some (.ref x) :: r) (.ref x :: st)) : G p l e R s m args below meth c nL cl sl A Q E σ π o pc (a0 :: a1 :: a2 :: some (.ref x) :: r) st :=
  fun H locs ls hW hS hl => lv_aload_n C.1.1 C.1.2.1 hd rfl (hl.at rfl) (k H locs ls hW hS hl)
theorem G.ast3 (C : gCx p s m c cc nL own Ts args E A R cl sl) {pc : Nat}  {a0 a1 a2 b : Option Value} {r : List (Option Value)} {st : List Value} {x : Nat} (hd : decode cc pc = .ok (.astore 3, 2)) (hn : 3 < nL) (h1 : lv1 (a0 :: a1 :: a2 :: b :: r) 3 = true) (k : G p l e R s m args below meth c nL cl sl A Q E σ π o (pc + 2) (a0 :: a1 :: a2 :: some (.ref x) :: r) st) : G p l e R s m args below meth c nL cl sl A Q E σ π o pc (a0 :: a1 :: a2 :: b :: r) (.ref x :: st) :=
  fun H locs ls hW hS hl => lv_astore C.1.1 C.1.2.1 hd hl hn rfl (fun ls' h' => k H locs ls' hW hS (lh.filt (lv := (a0 :: a1 :: a2 :: b :: r)) h' (fun k v hk hne => by simp only [Bool.and_eq_true]; exact ⟨by simp [hne], lv1_ok h1 hk⟩)))
theorem G.astn3 (C : gCx p s m c cc nL own Ts args E A R cl sl) {pc : Nat}  {a0 a1 a2 b : Option Value} {r : List (Option Value)} {st : List Value} {x : Nat} (hd : decode cc pc = .ok (.astore_n 3, 1)) (hn : 3 < nL) (h1 : lv1 (a0 :: a1 :: a2 :: b :: r) 3 = true) (k : G p l e R s m args below meth c nL cl sl A Q E σ π o (pc + 1) (a0 :: a1 :: a2 :: some (.ref x) :: r) st) : G p l e R s m args below meth c nL cl sl A Q E σ π o pc (a0 :: a1 :: a2 :: b :: r) (.ref x :: st) :=
  fun H locs ls hW hS hl => lv_astore_n (i := 3) C.1.1 C.1.2.1 hd rfl hl hn rfl (fun ls' h' => k H locs ls' hW hS (lh.filt (lv := (a0 :: a1 :: a2 :: b :: r)) h' (fun k v hk hne => by simp only [Bool.and_eq_true]; exact ⟨by simp [hne], lv1_ok h1 hk⟩)))
theorem G.ald4 (C : gCx p s m c cc nL own Ts args E A R cl sl) {pc : Nat}  {a0 a1 a2 a3 : Option Value} {r : List (Option Value)} {st : List Value} {x : Nat} (hd : decode cc pc = .ok (.aload 4, 2)) (k : G p l e R s m args below meth c nL cl sl A Q E σ π o (pc + 2) (a0 :: a1 :: a2 :: a3 :: some (.ref x) :: r) (.ref x :: st)) : G p l e R s m args below meth c nL cl sl A Q E σ π o pc (a0 :: a1 :: a2 :: a3 :: some (.ref x) :: r) st :=
  fun H locs ls hW hS hl => lv_aload C.1.1 C.1.2.1 hd (hl.at rfl) (k H locs ls hW hS hl)
theorem G.ast4 (C : gCx p s m c cc nL own Ts args E A R cl sl) {pc : Nat}  {a0 a1 a2 a3 b : Option Value} {r : List (Option Value)} {st : List Value} {x : Nat} (hd : decode cc pc = .ok (.astore 4, 2)) (hn : 4 < nL) (h1 : lv1 (a0 :: a1 :: a2 :: a3 :: b :: r) 4 = true) (k : G p l e R s m args below meth c nL cl sl A Q E σ π o (pc + 2) (a0 :: a1 :: a2 :: a3 :: some (.ref x) :: r) st) : G p l e R s m args below meth c nL cl sl A Q E σ π o pc (a0 :: a1 :: a2 :: a3 :: b :: r) (.ref x :: st) :=
  fun H locs ls hW hS hl => lv_astore C.1.1 C.1.2.1 hd hl hn rfl (fun ls' h' => k H locs ls' hW hS (lh.filt (lv := (a0 :: a1 :: a2 :: a3 :: b :: r)) h' (fun k v hk hne => by simp only [Bool.and_eq_true]; exact ⟨by simp [hne], lv1_ok h1 hk⟩)))
theorem G.ald5 (C : gCx p s m c cc nL own Ts args E A R cl sl) {pc : Nat}  {a0 a1 a2 a3 a4 : Option Value} {r : List (Option Value)} {st : List Value} {x : Nat} (hd : decode cc pc = .ok (.aload 5, 2)) (k : G p l e R s m args below meth c nL cl sl A Q E σ π o (pc + 2) (a0 :: a1 :: a2 :: a3 :: a4 :: some (.ref x) :: r) (.ref x :: st)) : G p l e R s m args below meth c nL cl sl A Q E σ π o pc (a0 :: a1 :: a2 :: a3 :: a4 :: some (.ref x) :: r) st :=
  fun H locs ls hW hS hl => lv_aload C.1.1 C.1.2.1 hd (hl.at rfl) (k H locs ls hW hS hl)
theorem G.ast5 (C : gCx p s m c cc nL own Ts args E A R cl sl) {pc : Nat}  {a0 a1 a2 a3 a4 b : Option Value} {r : List (Option Value)} {st : List Value} {x : Nat} (hd : decode cc pc = .ok (.astore 5, 2)) (hn : 5 < nL) (h1 : lv1 (a0 :: a1 :: a2 :: a3 :: a4 :: b :: r) 5 = true) (k : G p l e R s m args below meth c nL cl sl A Q E σ π o (pc + 2) (a0 :: a1 :: a2 :: a3 :: a4 :: some (.ref x) :: r) st) : G p l e R s m args below meth c nL cl sl A Q E σ π o pc (a0 :: a1 :: a2 :: a3 :: a4 :: b :: r) (.ref x :: st) :=
  fun H locs ls hW hS hl => lv_astore C.1.1 C.1.2.1 hd hl hn rfl (fun ls' h' => k H locs ls' hW hS (lh.filt (lv := (a0 :: a1 :: a2 :: a3 :: a4 :: b :: r)) h' (fun k v hk hne => by simp only [Bool.and_eq_true]; exact ⟨by simp [hne], lv1_ok h1 hk⟩)))
theorem G.ald6 (C : gCx p s m c cc nL own Ts args E A R cl sl) {pc : Nat}  {a0 a1 a2 a3 a4 a5 : Option Value} {r : List (Option Value)} {st : List Value} {x : Nat} (hd : decode cc pc = .ok (.aload 6, 2)) (k : G p l e R s m args below meth c nL cl sl A Q E σ π o (pc + 2) (a0 :: a1 :: a2 :: a3 :: a4 :: a5 :: some (.ref x) :: r) (.ref x :: st)) : G p l e R s m args below meth c nL cl sl A Q E σ π o pc (a0 :: a1 :: a2 :: a3 :: a4 :: a5 :: some (.ref x) :: r) st :=
  fun H locs ls hW hS hl => lv_aload C.1.1 C.1.2.1 hd (hl.at rfl) (k H locs ls hW hS hl)
theorem G.ast6 (C : gCx p s m c cc nL own Ts args E A R cl sl) {pc : Nat}  {a0 a1 a2 a3 a4 a5 b : Option Value} {r : List (Option Value)} {st : List Value} {x : Nat} (hd : decode cc pc = .ok (.astore 6, 2)) (hn : 6 < nL) (h1 : lv1 (a0 :: a1 :: a2 :: a3 :: a4 :: a5 :: b :: r) 6 = true) (k : G p l e R s m args below meth c nL cl sl A Q E σ π o (pc + 2) (a0 :: a1 :: a2 :: a3 :: a4 :: a5 :: some (.ref x) :: r) st) : G p l e R s m args below meth c nL cl sl A Q E σ π o pc (a0 :: a1 :: a2 :: a3 :: a4 :: a5 :: b :: r) (.ref x :: st) :=
  fun H locs ls hW hS hl => lv_astore C.1.1 C.1.2.1 hd hl hn rfl (fun ls' h' => k H locs ls' hW hS (lh.filt (lv := (a0 :: a1 :: a2 :: a3 :: a4 :: a5 :: b :: r)) h' (fun k v hk hne => by simp only [Bool.and_eq_true]; exact ⟨by simp [hne], lv1_ok h1 hk⟩)))
theorem G.ald7 (C : gCx p s m c cc nL own Ts args E A R cl sl) {pc : Nat}  {a0 a1 a2 a3 a4 a5 a6 : Option Value} {r : List (Option Value)} {st : List Value} {x : Nat} (hd : decode cc pc = .ok (.aload 7, 2)) (k : G p l e R s m args below meth c nL cl sl A Q E σ π o (pc + 2) (a0 :: a1 :: a2 :: a3 :: a4 :: a5 :: a6 :: some (.ref x) :: r) (.ref x :: st)) : G p l e R s m args below meth c nL cl sl A Q E σ π o pc (a0 :: a1 :: a2 :: a3 :: a4 :: a5 :: a6 :: some (.ref x) :: r) st :=
  fun H locs ls hW hS hl => lv_aload C.1.1 C.1.2.1 hd (hl.at rfl) (k H locs ls hW hS hl)
theorem G.ast7 (C : gCx p s m c cc nL own Ts args E A R cl sl) {pc : Nat}  {a0 a1 a2 a3 a4 a5 a6 b : Option Value} {r : List (Option Value)} {st : List Value} {x : Nat} (hd : decode cc pc = .ok (.astore 7, 2)) (hn : 7 < nL) (h1 : lv1 (a0 :: a1 :: a2 :: a3 :: a4 :: a5 :: a6 :: b :: r) 7 = true) (k : G p l e R s m args below meth c nL cl sl A Q E σ π o (pc + 2) (a0 :: a1 :: a2 :: a3 :: a4 :: a5 :: a6 :: some (.ref x) :: r) st) : G p l e R s m args below meth c nL cl sl A Q E σ π o pc (a0 :: a1 :: a2 :: a3 :: a4 :: a5 :: a6 :: b :: r) (.ref x :: st) :=
  fun H locs ls hW hS hl => lv_astore C.1.1 C.1.2.1 hd hl hn rfl (fun ls' h' => k H locs ls' hW hS (lh.filt (lv := (a0 :: a1 :: a2 :: a3 :: a4 :: a5 :: a6 :: b :: r)) h' (fun k v hk hne => by simp only [Bool.and_eq_true]; exact ⟨by simp [hne], lv1_ok h1 hk⟩)))
theorem G.ald8 (C : gCx p s m c cc nL own Ts args E A R cl sl) {pc : Nat}  {a0 a1 a2 a3 a4 a5 a6 a7 : Option Value} {r : List (Option Value)} {st : List Value} {x : Nat} (hd : decode cc pc = .ok (.aload 8, 2)) (k : G p l e R s m args below meth c nL cl sl A Q E σ π o (pc + 2) (a0 :: a1 :: a2 :: a3 :: a4 :: a5 :: a6 :: a7 :: some (.ref x) :: r) (.ref x :: st)) : G p l e R s m args below meth c nL cl sl A Q E σ π o pc (a0 :: a1 :: a2 :: a3 :: a4 :: a5 :: a6 :: a7 :: some (.ref x) :: r) st :=
  fun H locs ls hW hS hl => lv_aload C.1.1 C.1.2.1 hd (hl.at rfl) (k H locs ls hW hS hl)
theorem G.ast8 (C : gCx p s m c cc nL own Ts args E A R cl sl) {pc : Nat}  {a0 a1 a2 a3 a4 a5 a6 a7 b : Option Value} {r : List (Option Value)} {st : List Value} {x : Nat} (hd : decode cc pc = .ok (.astore 8, 2)) (hn : 8 < nL) (h1 : lv1 (a0 :: a1 :: a2 :: a3 :: a4 :: a5 :: a6 :: a7 :: b :: r) 8 = true) (k : G p l e R s m args below meth c nL cl sl A Q E σ π o (pc + 2) (a0 :: a1 :: a2 :: a3 :: a4 :: a5 :: a6 :: a7 :: some (.ref x) :: r) st) : G p l e R s m args below meth c nL cl sl A Q E σ π o pc (a0 :: a1 :: a2 :: a3 :: a4 :: a5 :: a6 :: a7 :: b :: r) (.ref x :: st) :=
  fun H locs ls hW hS hl => lv_astore C.1.1 C.1.2.1 hd hl hn rfl (fun ls' h' => k H locs ls' hW hS (lh.filt (lv := (a0 :: a1 :: a2 :: a3 :: a4 :: a5 :: a6 :: a7 :: b :: r)) h' (fun k v hk hne => by simp only [Bool.and_eq_true]; exact ⟨by simp [hne], lv1_ok h1 hk⟩)))
theorem G.ald9 (C : gCx p s m c cc nL own Ts args E A R cl sl) {pc : Nat}  {a0 a1 a2 a3 a4 a5 a6 a7 a8 : Option Value} {r : List (Option Value)} {st : List Value} {x : Nat} (hd : decode cc pc = .ok (.aload 9, 2)) (k : G p l e R s m args below meth c nL cl sl A Q E σ π o (pc + 2) (a0 :: a1 :: a2 :: a3 :: a4 :: a5 :: a6 :: a7 :: a8 :: some (.ref x) :: r) (.ref x :: st)) : G p l e R s m args below meth c nL cl sl A Q E σ π o pc (a0 :: a1 :: a2 :: a3 :: a4 :: a5 :: a6 :: a7 :: a8 :: some (.ref x) :: r) st :=
  fun H locs ls hW hS hl => lv_aload C.1.1 C.1.2.1 hd (hl.at rfl) (k H locs ls hW hS hl)
theorem G.ast9 (C : gCx p s m c cc nL own Ts args E A R cl sl) {pc : Nat}  {a0 a1 a2 a3 a4 a5 a6 a7 a8 b : Option Value} {r : List (Option Value)} {st : List Value} {x : Nat} (hd : decode cc pc = .ok (.astore 9, 2)) (hn : 9 < nL) (h1 : lv1 (a0 :: a1 :: a2 :: a3 :: a4 :: a5 :: a6 :: a7 :: a8 :: b :: r) 9 = true) (k : G p l e R s m args below meth c nL cl sl A Q E σ π o (pc + 2) (a0 :: a1 :: a2 :: a3 :: a4 :: a5 :: a6 :: a7 :: a8 :: some (.ref x) :: r) st) : G p l e R s m args below meth c nL cl sl A Q E σ π o pc (a0 :: a1 :: a2 :: a3 :: a4 :: a5 :: a6 :: a7 :: a8 :: b :: r) (.ref x :: st) :=
  fun H locs ls hW hS hl => lv_astore C.1.1 C.1.2.1 hd hl hn rfl (fun ls' h' => k H locs ls' hW hS (lh.filt (lv := (a0 :: a1 :: a2 :: a3 :: a4 :: a5 :: a6 :: a7 :: a8 :: b :: r)) h' (fun k v hk hne => by simp only [Bool.and_eq_true]; exact ⟨by simp [hne], lv1_ok h1 hk⟩)))
theorem G.lld0 (C : gCx p s m c cc nL own Ts args E A R cl sl) {pc : Nat}   {r : List (Option Value)} {st : List Value} {x : Int64} (hd : decode cc pc = .ok (.lload 0, 2)) (k : G p l e R s m args below meth c nL cl sl A Q E σ π o (pc + 2) (some (.long x) :: r) (.long x :: st)) : G p l e R s m args below meth c nL cl sl A Q E σ π o pc (some (.long x) :: r) st :=
  fun H locs ls hW hS hl => lv_lload C.1.1 C.1.2.1 hd (hl.at rfl) (k H locs ls hW hS hl)
theorem G.lldn0 (C : gCx p s m c cc nL own Ts args E A R cl sl) {pc : Nat}   {r : List (Option Value)} {st : List Value} {x : Int64} (hd : decode cc pc = .ok (.lload_n 0, 1)) (k : G p l e R s m args below meth c nL cl sl A Q E σ π o (pc + 1) (some (.long x) :: r) (.long x :: st)) : G p l e R s m args below meth c nL cl sl A Q E σ π o pc (some (.long x) :: r) st :=
  fun H locs ls hW hS hl => lv_lload_n C.1.1 C.1.2.1 hd rfl (hl.at rfl) (k H locs ls hW hS hl)
theorem G.lst0 (C : gCx p s m c cc nL own Ts args E A R cl sl) {pc : Nat}  { b b2 : Option Value} {r : List (Option Value)} {st : List Value} {x : Int64} (hd : decode cc pc = .ok (.lstore 0, 2)) (hn : 0 + 1 < nL) (h1 : lv1 (b :: b2 :: r) 0 = true) (k : G p l e R s m args below meth c nL cl sl A Q E σ π o (pc + 2) (some (.long x) :: none :: r) st) : G p l e R s m args below meth c nL cl sl A Q E σ π o pc (b :: b2 :: r) (.long x :: st) :=
  fun H locs ls hW hS hl => lv_lstore C.1.1 C.1.2.1 hd hl hn rfl (fun ls' h' => k H locs ls' hW hS (lh2 (lv := (b :: b2 :: r)) (i := 0) h' h1))
theorem G.lstn0 (C : gCx p s m c cc nL own Ts args E A R cl sl) {pc : Nat}  { b b2 : Option Value} {r : List (Option Value)} {st : List Value} {x : Int64} (hd : decode cc pc = .ok (.lstore_n 0, 1)) (hn : 0 + 1 < nL) (h1 : lv1 (b :: b2 :: r) 0 = true) (k : G p l e R s m args below meth c nL cl sl A Q E σ π o (pc + 1) (some (.long x) :: none :: r) st) : G p l e R s m args below meth c nL cl sl A Q E σ π o pc (b :: b2 :: r) (.long x :: st) :=
  fun H locs ls hW hS hl => lv_lstore_n (i := 0) C.1.1 C.1.2.1 hd rfl hl hn rfl (fun ls' h' => k H locs ls' hW hS (lh2 (lv := (b :: b2 :: r)) (i := 0) h' h1))
theorem G.lld1 (C : gCx p s m c cc nL own Ts args E A R cl sl) {pc : Nat}  {a0 : Option Value} {r : List (Option Value)} {st : List Value} {x : Int64} (hd : decode cc pc = .ok (.lload 1, 2)) (k : G p l e R s m args below meth c nL cl sl A Q E σ π o (pc + 2) (a0 :: some (.long x) :: r) (.long x :: st)) : G p l e R s m args below meth c nL cl sl A Q E σ π o pc (a0 :: some (.long x) :: r) st :=
  fun H locs ls hW hS hl => lv_lload C.1.1 C.1.2.1 hd (hl.at rfl) (k H locs ls hW hS hl)
theorem G.lldn1 (C : gCx p s m c cc nL own Ts args E A R cl sl) {pc : Nat}  {a0 : Option Value} {r : List (Option Value)} {st : List Value} {x : Int64} (hd : decode cc pc = .ok (.lload_n 1, 1)) (k : G p l e R s m args below meth c nL cl sl A Q E σ π o (pc + 1) (a0 :: some (.long x) :: r) (.long x :: st)) : G p l e R s m args below meth c nL cl sl A Q E σ π o pc (a0 :: some (.long x) :: r) st :=
  fun H locs ls hW hS hl => lv_lload_n C.1.1 C.1.2.1 hd rfl (hl.at rfl) (k H locs ls hW hS hl)
theorem G.lst1 (C : gCx p s m c cc nL own Ts args E A R cl sl) {pc : Nat}  {a0 b b2 : Option Value} {r : List (Option Value)} {st : List Value} {x : Int64} (hd : decode cc pc = .ok (.lstore 1, 2)) (hn : 1 + 1 < nL) (h1 : lv1 (a0 :: b :: b2 :: r) 1 = true) (k : G p l e R s m args below meth c nL cl sl A Q E σ π o (pc + 2) (a0 :: some (.long x) :: none :: r) st) : G p l e R s m args below meth c nL cl sl A Q E σ π o pc (a0 :: b :: b2 :: r) (.long x :: st) :=
  fun H locs ls hW hS hl => lv_lstore C.1.1 C.1.2.1 hd hl hn rfl (fun ls' h' => k H locs ls' hW hS (lh2 (lv := (a0 :: b :: b2 :: r)) (i := 1) h' h1))
theorem G.lstn1 (C : gCx p s m c cc nL own Ts args E A R cl sl) {pc : Nat}  {a0 b b2 : Option Value} {r : List (Option Value)} {st : List Value} {x : Int64} (hd : decode cc pc = .ok (.lstore_n 1, 1)) (hn : 1 + 1 < nL) (h1 : lv1 (a0 :: b :: b2 :: r) 1 = true) (k : G p l e R s m args below meth c nL cl sl A Q E σ π o (pc + 1) (a0 :: some (.long x) :: none :: r) st) : G p l e R s m args below meth c nL cl sl A Q E σ π o pc (a0 :: b :: b2 :: r) (.long x :: st) :=
  fun H locs ls hW hS hl => lv_lstore_n (i := 1) C.1.1 C.1.2.1 hd rfl hl hn rfl (fun ls' h' => k H locs ls' hW hS (lh2 (lv := (a0 :: b :: b2 :: r)) (i := 1) h' h1))
theorem G.lld2 (C : gCx p s m c cc nL own Ts args E A R cl sl) {pc : Nat}  {a0 a1 : Option Value} {r : List (Option Value)} {st : List Value} {x : Int64} (hd : decode cc pc = .ok (.lload 2, 2)) (k : G p l e R s m args below meth c nL cl sl A Q E σ π o (pc + 2) (a0 :: a1 :: some (.long x) :: r) (.long x :: st)) : G p l e R s m args below meth c nL cl sl A Q E σ π o pc (a0 :: a1 :: some (.long x) :: r) st :=
  fun H locs ls hW hS hl => lv_lload C.1.1 C.1.2.1 hd (hl.at rfl) (k H locs ls hW hS hl)
theorem G.lldn2 (C : gCx p s m c cc nL own Ts args E A R cl sl) {pc : Nat}  {a0 a1 : Option Value} {r : List (Option Value)} {st : List Value} {x : Int64} (hd : decode cc pc = .ok (.lload_n 2, 1)) (k : G p l e R s m args below meth c nL cl sl A Q E σ π o (pc + 1) (a0 :: a1 :: some (.long x) :: r) (.long x :: st)) : G p l e R s m args below meth c nL cl sl A Q E σ π o pc (a0 :: a1 :: some (.long x) :: r) st :=
  fun H locs ls hW hS hl => lv_lload_n C.1.1 C.1.2.1 hd rfl (hl.at rfl) (k H locs ls hW hS hl)
theorem G.lst2 (C : gCx p s m c cc nL own Ts args E A R cl sl) {pc : Nat}  {a0 a1 b b2 : Option Value} {r : List (Option Value)} {st : List Value} {x : Int64} (hd : decode cc pc = .ok (.lstore 2, 2)) (hn : 2 + 1 < nL) (h1 : lv1 (a0 :: a1 :: b :: b2 :: r) 2 = true) (k : G p l e R s m args below meth c nL cl sl A Q E σ π o (pc + 2) (a0 :: a1 :: some (.long x) :: none :: r) st) : G p l e R s m args below meth c nL cl sl A Q E σ π o pc (a0 :: a1 :: b :: b2 :: r) (.long x :: st) :=
  fun H locs ls hW hS hl => lv_lstore C.1.1 C.1.2.1 hd hl hn rfl (fun ls' h' => k H locs ls' hW hS (lh2 (lv := (a0 :: a1 :: b :: b2 :: r)) (i := 2) h' h1))
theorem G.lstn2 (C : gCx p s m c cc nL own Ts args E A R cl sl) {pc : Nat}  {a0 a1 b b2 : Option Value} {r : List (Option Value)} {st : List Value} {x : Int64} (hd : decode cc pc = .ok (.lstore_n 2, 1)) (hn : 2 + 1 < nL) (h1 : lv1 (a0 :: a1 :: b :: b2 :: r) 2 = true) (k : G p l e R s m args below meth c nL cl sl A Q E σ π o (pc + 1) (a0 :: a1 :: some (.long x) :: none :: r) st) : G p l e R s m args below meth c nL cl sl A Q E σ π o pc (a0 :: a1 :: b :: b2 :: r) (.long x :: st) :=
  fun H locs ls hW hS hl => lv_lstore_n (i := 2) C.1.1 C.1.2.1 hd rfl hl hn rfl (fun ls' h' => k H locs ls' hW hS (lh2 (lv := (a0 :: a1 :: b :: b2 :: r)) (i := 2) h' h1))
theorem G.lld3 (C : gCx p s m c cc nL own Ts args E A R cl sl) {pc : Nat}  {a0 a1 a2 : Option Value} {r : List (Option Value)} {st : List Value} {x : Int64} (hd : decode cc pc = .ok (.lload 3, 2)) (k : G p l e R s m args below meth c nL cl sl A Q E σ π o (pc + 2) (a0 :: a1 :: a2 :: some (.long x) :: r) (.long x :: st)) : G p l e R s m args below meth c nL cl sl A Q E σ π o pc (a0 :: a1 :: a2 :: some (.long x) :: r) st :=
  fun H locs ls hW hS hl => lv_lload C.1.1 C.1.2.1 hd (hl.at rfl) (k H locs ls hW hS hl)
theorem G.lldn3 (C : gCx p s m c cc nL own Ts args E A R cl sl) {pc : Nat}  {a0 a1 a2 : Option Value} {r : List (Option Value)} {st : List Value} {x : Int64} (hd : decode cc pc = .ok (.lload_n 3, 1)) (k : G p l e R s m args below meth c nL cl sl A Q E σ π o (pc + 1) (a0 :: a1 :: a2 :: some (.long x) :: r) (.long x :: st)) : G p l e R s m args below meth c nL cl sl A Q E σ π o pc (a0 :: a1 :: a2 :: some (.long x) :: r) st :=
  fun H locs ls hW hS hl => lv_lload_n C.1.1 C.1.2.1 hd rfl (hl.at rfl) (k H locs ls hW hS hl)
theorem G.lst3 (C : gCx p s m c cc nL own Ts args E A R cl sl) {pc : Nat}  {a0 a1 a2 b b2 : Option Value} {r : List (Option Value)} {st : List Value} {x : Int64} (hd : decode cc pc = .ok (.lstore 3, 2)) (hn : 3 + 1 < nL) (h1 : lv1 (a0 :: a1 :: a2 :: b :: b2 :: r) 3 = true) (k : G p l e R s m args below meth c nL cl sl A Q E σ π o (pc + 2) (a0 :: a1 :: a2 :: some (.long x) :: none :: r) st) : G p l e R s m args below meth c nL cl sl A Q E σ π o pc (a0 :: a1 :: a2 :: b :: b2 :: r) (.long x :: st) :=
  fun H locs ls hW hS hl => lv_lstore C.1.1 C.1.2.1 hd hl hn rfl (fun ls' h' => k H locs ls' hW hS (lh2 (lv := (a0 :: a1 :: a2 :: b :: b2 :: r)) (i := 3) h' h1))
theorem G.lstn3 (C : gCx p s m c cc nL own Ts args E A R cl sl) {pc : Nat}  {a0 a1 a2 b b2 : Option Value} {r : List (Option Value)} {st : List Value} {x : Int64} (hd : decode cc pc = .ok (.lstore_n 3, 1)) (hn : 3 + 1 < nL) (h1 : lv1 (a0 :: a1 :: a2 :: b :: b2 :: r) 3 = true) (k : G p l e R s m args below meth c nL cl sl A Q E σ π o (pc + 1) (a0 :: a1 :: a2 :: some (.long x) :: none :: r) st) : G p l e R s m args below meth c nL cl sl A Q E σ π o pc (a0 :: a1 :: a2 :: b :: b2 :: r) (.long x :: st) :=
  fun H locs ls hW hS hl => lv_lstore_n (i := 3) C.1.1 C.1.2.1 hd rfl hl hn rfl (fun ls' h' => k H locs ls' hW hS (lh2 (lv := (a0 :: a1 :: a2 :: b :: b2 :: r)) (i := 3) h' h1))
theorem G.lld4 (C : gCx p s m c cc nL own Ts args E A R cl sl) {pc : Nat}  {a0 a1 a2 a3 : Option Value} {r : List (Option Value)} {st : List Value} {x : Int64} (hd : decode cc pc = .ok (.lload 4, 2)) (k : G p l e R s m args below meth c nL cl sl A Q E σ π o (pc + 2) (a0 :: a1 :: a2 :: a3 :: some (.long x) :: r) (.long x :: st)) : G p l e R s m args below meth c nL cl sl A Q E σ π o pc (a0 :: a1 :: a2 :: a3 :: some (.long x) :: r) st :=
  fun H locs ls hW hS hl => lv_lload C.1.1 C.1.2.1 hd (hl.at rfl) (k H locs ls hW hS hl)
theorem G.lst4 (C : gCx p s m c cc nL own Ts args E A R cl sl) {pc : Nat}  {a0 a1 a2 a3 b b2 : Option Value} {r : List (Option Value)} {st : List Value} {x : Int64} (hd : decode cc pc = .ok (.lstore 4, 2)) (hn : 4 + 1 < nL) (h1 : lv1 (a0 :: a1 :: a2 :: a3 :: b :: b2 :: r) 4 = true) (k : G p l e R s m args below meth c nL cl sl A Q E σ π o (pc + 2) (a0 :: a1 :: a2 :: a3 :: some (.long x) :: none :: r) st) : G p l e R s m args below meth c nL cl sl A Q E σ π o pc (a0 :: a1 :: a2 :: a3 :: b :: b2 :: r) (.long x :: st) :=
  fun H locs ls hW hS hl => lv_lstore C.1.1 C.1.2.1 hd hl hn rfl (fun ls' h' => k H locs ls' hW hS (lh2 (lv := (a0 :: a1 :: a2 :: a3 :: b :: b2 :: r)) (i := 4) h' h1))
theorem G.lld5 (C : gCx p s m c cc nL own Ts args E A R cl sl) {pc : Nat}  {a0 a1 a2 a3 a4 : Option Value} {r : List (Option Value)} {st : List Value} {x : Int64} (hd : decode cc pc = .ok (.lload 5, 2)) (k : G p l e R s m args below meth c nL cl sl A Q E σ π o (pc + 2) (a0 :: a1 :: a2 :: a3 :: a4 :: some (.long x) :: r) (.long x :: st)) : G p l e R s m args below meth c nL cl sl A Q E σ π o pc (a0 :: a1 :: a2 :: a3 :: a4 :: some (.long x) :: r) st :=
  fun H locs ls hW hS hl => lv_lload C.1.1 C.1.2.1 hd (hl.at rfl) (k H locs ls hW hS hl)
theorem G.lst5 (C : gCx p s m c cc nL own Ts args E A R cl sl) {pc : Nat}  {a0 a1 a2 a3 a4 b b2 : Option Value} {r : List (Option Value)} {st : List Value} {x : Int64} (hd : decode cc pc = .ok (.lstore 5, 2)) (hn : 5 + 1 < nL) (h1 : lv1 (a0 :: a1 :: a2 :: a3 :: a4 :: b :: b2 :: r) 5 = true) (k : G p l e R s m args below meth c nL cl sl A Q E σ π o (pc + 2) (a0 :: a1 :: a2 :: a3 :: a4 :: some (.long x) :: none :: r) st) : G p l e R s m args below meth c nL cl sl A Q E σ π o pc (a0 :: a1 :: a2 :: a3 :: a4 :: b :: b2 :: r) (.long x :: st) :=
  fun H locs ls hW hS hl => lv_lstore C.1.1 C.1.2.1 hd hl hn rfl (fun ls' h' => k H locs ls' hW hS (lh2 (lv := (a0 :: a1 :: a2 :: a3 :: a4 :: b :: b2 :: r)) (i := 5) h' h1))
theorem G.lld6 (C : gCx p s m c cc nL own Ts args E A R cl sl) {pc : Nat}  {a0 a1 a2 a3 a4 a5 : Option Value} {r : List (Option Value)} {st : List Value} {x : Int64} (hd : decode cc pc = .ok (.lload 6, 2)) (k : G p l e R s m args below meth c nL cl sl A Q E σ π o (pc + 2) (a0 :: a1 :: a2 :: a3 :: a4 :: a5 :: some (.long x) :: r) (.long x :: st)) : G p l e R s m args below meth c nL cl sl A Q E σ π o pc (a0 :: a1 :: a2 :: a3 :: a4 :: a5 :: some (.long x) :: r) st :=
  fun H locs ls hW hS hl => lv_lload C.1.1 C.1.2.1 hd (hl.at rfl) (k H locs ls hW hS hl)
theorem G.lst6 (C : gCx p s m c cc nL own Ts args E A R cl sl) {pc : Nat}  {a0 a1 a2 a3 a4 a5 b b2 : Option Value} {r : List (Option Value)} {st : List Value} {x : Int64} (hd : decode cc pc = .ok (.lstore 6, 2)) (hn : 6 + 1 < nL) (h1 : lv1 (a0 :: a1 :: a2 :: a3 :: a4 :: a5 :: b :: b2 :: r) 6 = true) (k : G p l e R s m args below meth c nL cl sl A Q E σ π o (pc + 2) (a0 :: a1 :: a2 :: a3 :: a4 :: a5 :: some (.long x) :: none :: r) st) : G p l e R s m args below meth c nL cl sl A Q E σ π o pc (a0 :: a1 :: a2 :: a3 :: a4 :: a5 :: b :: b2 :: r) (.long x :: st) :=
  fun H locs ls hW hS hl => lv_lstore C.1.1 C.1.2.1 hd hl hn rfl (fun ls' h' => k H locs ls' hW hS (lh2 (lv := (a0 :: a1 :: a2 :: a3 :: a4 :: a5 :: b :: b2 :: r)) (i := 6) h' h1))
theorem G.lld7 (C : gCx p s m c cc nL own Ts args E A R cl sl) {pc : Nat}  {a0 a1 a2 a3 a4 a5 a6 : Option Value} {r : List (Option Value)} {st : List Value} {x : Int64} (hd : decode cc pc = .ok (.lload 7, 2)) (k : G p l e R s m args below meth c nL cl sl A Q E σ π o (pc + 2) (a0 :: a1 :: a2 :: a3 :: a4 :: a5 :: a6 :: some (.long x) :: r) (.long x :: st)) : G p l e R s m args below meth c nL cl sl A Q E σ π o pc (a0 :: a1 :: a2 :: a3 :: a4 :: a5 :: a6 :: some (.long x) :: r) st :=
  fun H locs ls hW hS hl => lv_lload C.1.1 C.1.2.1 hd (hl.at rfl) (k H locs ls hW hS hl)
theorem G.lst7 (C : gCx p s m c cc nL own Ts args E A R cl sl) {pc : Nat}  {a0 a1 a2 a3 a4 a5 a6 b b2 : Option Value} {r : List (Option Value)} {st : List Value} {x : Int64} (hd : decode cc pc = .ok (.lstore 7, 2)) (hn : 7 + 1 < nL) (h1 : lv1 (a0 :: a1 :: a2 :: a3 :: a4 :: a5 :: a6 :: b :: b2 :: r) 7 = true) (k : G p l e R s m args below meth c nL cl sl A Q E σ π o (pc + 2) (a0 :: a1 :: a2 :: a3 :: a4 :: a5 :: a6 :: some (.long x) :: none :: r) st) : G p l e R s m args below meth c nL cl sl A Q E σ π o pc (a0 :: a1 :: a2 :: a3 :: a4 :: a5 :: a6 :: b :: b2 :: r) (.long x :: st) :=
  fun H locs ls hW hS hl => lv_lstore C.1.1 C.1.2.1 hd hl hn rfl (fun ls' h' => k H locs ls' hW hS (lh2 (lv := (a0 :: a1 :: a2 :: a3 :: a4 :: a5 :: a6 :: b :: b2 :: r)) (i := 7) h' h1))
theorem G.lld8 (C : gCx p s m c cc nL own Ts args E A R cl sl) {pc : Nat}  {a0 a1 a2 a3 a4 a5 a6 a7 : Option Value} {r : List (Option Value)} {st : List Value} {x : Int64} (hd : decode cc pc = .ok (.lload 8, 2)) (k : G p l e R s m args below meth c nL cl sl A Q E σ π o (pc + 2) (a0 :: a1 :: a2 :: a3 :: a4 :: a5 :: a6 :: a7 :: some (.long x) :: r) (.long x :: st)) : G p l e R s m args below meth c nL cl sl A Q E σ π o pc (a0 :: a1 :: a2 :: a3 :: a4 :: a5 :: a6 :: a7 :: some (.long x) :: r) st :=
  fun H locs ls hW hS hl => lv_lload C.1.1 C.1.2.1 hd (hl.at rfl) (k H locs ls hW hS hl)
theorem G.lst8 (C : gCx p s m c cc nL own Ts args E A R cl sl) {pc : Nat}  {a0 a1 a2 a3 a4 a5 a6 a7 b b2 : Option Value} {r : List (Option Value)} {st : List Value} {x : Int64} (hd : decode cc pc = .ok (.lstore 8, 2)) (hn : 8 + 1 < nL) (h1 : lv1 (a0 :: a1 :: a2 :: a3 :: a4 :: a5 :: a6 :: a7 :: b :: b2 :: r) 8 = true) (k : G p l e R s m args below meth c nL cl sl A Q E σ π o (pc + 2) (a0 :: a1 :: a2 :: a3 :: a4 :: a5 :: a6 :: a7 :: some (.long x) :: none :: r) st) : G p l e R s m args below meth c nL cl sl A Q E σ π o pc (a0 :: a1 :: a2 :: a3 :: a4 :: a5 :: a6 :: a7 :: b :: b2 :: r) (.long x :: st) :=
  fun H locs ls hW hS hl => lv_lstore C.1.1 C.1.2.1 hd hl hn rfl (fun ls' h' => k H locs ls' hW hS (lh2 (lv := (a0 :: a1 :: a2 :: a3 :: a4 :: a5 :: a6 :: a7 :: b :: b2 :: r)) (i := 8) h' h1))
theorem G.lld9 (C : gCx p s m c cc nL own Ts args E A R cl sl) {pc : Nat}  {a0 a1 a2 a3 a4 a5 a6 a7 a8 : Option Value} {r : List (Option Value)} {st : List Value} {x : Int64} (hd : decode cc pc = .ok (.lload 9, 2)) (k : G p l e R s m args below meth c nL cl sl A Q E σ π o (pc + 2) (a0 :: a1 :: a2 :: a3 :: a4 :: a5 :: a6 :: a7 :: a8 :: some (.long x) :: r) (.long x :: st)) : G p l e R s m args below meth c nL cl sl A Q E σ π o pc (a0 :: a1 :: a2 :: a3 :: a4 :: a5 :: a6 :: a7 :: a8 :: some (.long x) :: r) st :=
  fun H locs ls hW hS hl => lv_lload C.1.1 C.1.2.1 hd (hl.at rfl) (k H locs ls hW hS hl)
theorem G.lst9 (C : gCx p s m c cc nL own Ts args E A R cl sl) {pc : Nat}  {a0 a1 a2 a3 a4 a5 a6 a7 a8 b b2 : Option Value} {r : List (Option Value)} {st : List Value} {x : Int64} (hd : decode cc pc = .ok (.lstore 9, 2)) (hn : 9 + 1 < nL) (h1 : lv1 (a0 :: a1 :: a2 :: a3 :: a4 :: a5 :: a6 :: a7 :: a8 :: b :: b2 :: r) 9 = true) (k : G p l e R s m args below meth c nL cl sl A Q E σ π o (pc + 2) (a0 :: a1 :: a2 :: a3 :: a4 :: a5 :: a6 :: a7 :: a8 :: some (.long x) :: none :: r) st) : G p l e R s m args below meth c nL cl sl A Q E σ π o pc (a0 :: a1 :: a2 :: a3 :: a4 :: a5 :: a6 :: a7 :: a8 :: b :: b2 :: r) (.long x :: st) :=
  fun H locs ls hW hS hl => lv_lstore C.1.1 C.1.2.1 hd hl hn rfl (fun ls' h' => k H locs ls' hW hS (lh2 (lv := (a0 :: a1 :: a2 :: a3 :: a4 :: a5 :: a6 :: a7 :: a8 :: b :: b2 :: r)) (i := 9) h' h1))
theorem G.dld0 (C : gCx p s m c cc nL own Ts args E A R cl sl) {pc : Nat}   {r : List (Option Value)} {st : List Value} {x : UInt64} (hd : decode cc pc = .ok (.dload 0, 2)) (k : G p l e R s m args below meth c nL cl sl A Q E σ π o (pc + 2) (some (.double x) :: r) (.double x :: st)) : G p l e R s m args below meth c nL cl sl A Q E σ π o pc (some (.double x) :: r) st :=
  fun H locs ls hW hS hl => lv_dload C.1.1 C.1.2.1 hd (hl.at rfl) (k H locs ls hW hS hl)
theorem G.dldn0 (C : gCx p s m c cc nL own Ts args E A R cl sl) {pc : Nat}   {r : List (Option Value)} {st : List Value} {x : UInt64} (hd : decode cc pc = .ok (.dload_n 0, 1)) (k : G p l e R s m args below meth c nL cl sl A Q E σ π o (pc + 1) (some (.double x) :: r) (.double x :: st)) : G p l e R s m args below meth c nL cl sl A Q E σ π o pc (some (.double x) :: r) st :=
  fun H locs ls hW hS hl => lv_dload_n C.1.1 C.1.2.1 hd rfl (hl.at rfl) (k H locs ls hW hS hl)
theorem G.dst0 (C : gCx p s m c cc nL own Ts args E A R cl sl) {pc : Nat}  { b b2 : Option Value} {r : List (Option Value)} {st : List Value} {x : UInt64} (hd : decode cc pc = .ok (.dstore 0, 2)) (hn : 0 + 1 < nL) (h1 : lv1 (b :: b2 :: r) 0 = true) (k : G p l e R s m args below meth c nL cl sl A Q E σ π o (pc + 2) (some (.double x) :: none :: r) st) : G p l e R s m args below meth c nL cl sl A Q E σ π o pc (b :: b2 :: r) (.double x :: st) :=
  fun H locs ls hW hS hl => lv_dstore C.1.1 C.1.2.1 hd hl hn rfl (fun ls' h' => k H locs ls' hW hS (lh2 (lv := (b :: b2 :: r)) (i := 0) h' h1))
theorem G.dstn0 (C : gCx p s m c cc nL own Ts args E A R cl sl) {pc : Nat}  { b b2 : Option Value} {r : List (Option Value)} {st : List Value} {x : UInt64} (hd : decode cc pc = .ok (.dstore_n 0, 1)) (hn : 0 + 1 < nL) (h1 : lv1 (b :: b2 :: r) 0 = true) (k : G p l e R s m args below meth c nL cl sl A Q E σ π o (pc + 1) (some (.double x) :: none :: r) st) : G p l e R s m args below meth c nL cl sl A Q E σ π o pc (b :: b2 :: r) (.double x :: st) :=
  fun H locs ls hW hS hl => lv_dstore_n (i := 0) C.1.1 C.1.2.1 hd rfl hl hn rfl (fun ls' h' => k H locs ls' hW hS (lh2 (lv := (b :: b2 :: r)) (i := 0) h' h1))
theorem G.dld1 (C : gCx p s m c cc nL own Ts args E A R cl sl) {pc : Nat}  {a0 : Option Value} {r : List (Option Value)} {st : List Value} {x : UInt64} (hd : decode cc pc = .ok (.dload 1, 2)) (k : G p l e R s m args below meth c nL cl sl A Q E σ π o (pc + 2) (a0 :: some (.double x) :: r) (.double x :: st)) : G p l e R s m args below meth c nL cl sl A Q E σ π o pc (a0 :: some (.double x) :: r) st :=
  fun H locs ls hW hS hl => lv_dload C.1.1 C.1.2.1 hd (hl.at rfl) (k H locs ls hW hS hl)
theorem G.dldn1 (C : gCx p s m c cc nL own Ts args E A R cl sl) {pc : Nat}  {a0 : Option Value} {r : List (Option Value)} {st : List Value} {x : UInt64} (hd : decode cc pc = .ok (.dload_n 1, 1)) (k : G p l e R s m args below meth c nL cl sl A Q E σ π o (pc + 1) (a0 :: some (.double x) :: r) (.double x :: st)) : G p l e R s m args below meth c nL cl sl A Q E σ π o pc (a0 :: some (.double x) :: r) st :=
  fun H locs ls hW hS hl => lv_dload_n C.1.1 C.1.2.1 hd rfl (hl.at rfl) (k H locs ls hW hS hl)
theorem G.dst1 (C : gCx p s m c cc nL own Ts args E A R cl sl) {pc : Nat}  {a0 b b2 : Option Value} {r : List (Option Value)} {st : List Value} {x : UInt64} (hd : decode cc pc = .ok (.dstore 1, 2)) (hn : 1 + 1 < nL) (h1 : lv1 (a0 :: b :: b2 :: r) 1 = true) (k : G p l e R s m args below meth c nL cl sl A Q E σ π o (pc + 2) (a0 :: some (.double x) :: none :: r) st) : G p l e R s m args below meth c nL cl sl A Q E σ π o pc (a0 :: b :: b2 :: r) (.double x :: st) :=
  fun H locs ls hW hS hl => lv_dstore C.1.1 C.1.2.1 hd hl hn rfl (fun ls' h' => k H locs ls' hW hS (lh2 (lv := (a0 :: b :: b2 :: r)) (i := 1) h' h1))
theorem G.dstn1 (C : gCx p s m c cc nL own Ts args E A R cl sl) {pc : Nat}  {a0 b b2 : Option Value} {r : List (Option Value)} {st : List Value} {x : UInt64} (hd : decode cc pc = .ok (.dstore_n 1, 1)) (hn : 1 + 1 < nL) (h1 : lv1 (a0 :: b :: b2 :: r) 1 = true) (k : G p l e R s m args below meth c nL cl sl A Q E σ π o (pc + 1) (a0 :: some (.double x) :: none :: r) st) : G p l e R s m args below meth c nL cl sl A Q E σ π o pc (a0 :: b :: b2 :: r) (.double x :: st) :=
  fun H locs ls hW hS hl => lv_dstore_n (i := 1) C.1.1 C.1.2.1 hd rfl hl hn rfl (fun ls' h' => k H locs ls' hW hS (lh2 (lv := (a0 :: b :: b2 :: r)) (i := 1) h' h1))
theorem G.dld2 (C : gCx p s m c cc nL own Ts args E A R cl sl) {pc : Nat}  {a0 a1 : Option Value} {r : List (Option Value)} {st : List Value} {x : UInt64} (hd : decode cc pc = .ok (.dload 2, 2)) (k : G p l e R s m args below meth c nL cl sl A Q E σ π o (pc + 2) (a0 :: a1 :: some (.double x) :: r) (.double x :: st)) : G p l e R s m args below meth c nL cl sl A Q E σ π o pc (a0 :: a1 :: some (.double x) :: r) st :=
  fun H locs ls hW hS hl => lv_dload C.1.1 C.1.2.1 hd (hl.at rfl) (k H locs ls hW hS hl)
theorem G.dldn2 (C : gCx p s m c cc nL own Ts args E A R cl sl) {pc : Nat}  {a0 a1 : Option Value} {r : List (Option Value)} {st : List Value} {x : UInt64} (hd : decode cc pc = .ok (.dload_n 2, 1)) (k : G p l e R s m args below meth c nL cl sl A Q E σ π o (pc + 1) (a0 :: a1 :: some (.double x) :: r) (.double x :: st)) : G p l e R s m args below meth c nL cl sl A Q E σ π o pc (a0 :: a1 :: some (.double x) :: r) st :=
  fun H locs ls hW hS hl => lv_dload_n C.1.1 C.1.2.1 hd rfl (hl.at rfl) (k H locs ls hW hS hl)
theorem G.dst2 (C : gCx p s m c cc nL own Ts args E A R cl sl) {pc : Nat}  {a0 a1 b b2 : Option Value} {r : List (Option Value)} {st : List Value} {x : UInt64} (hd : decode cc pc = .ok (.dstore 2, 2)) (hn : 2 + 1 < nL) (h1 : lv1 (a0 :: a1 :: b :: b2 :: r) 2 = true) (k : G p l e R s m args below meth c nL cl sl A Q E σ π o (pc + 2) (a0 :: a1 :: some (.double x) :: none :: r) st) : G p l e R s m args below meth c nL cl sl A Q E σ π o pc (a0 :: a1 :: b :: b2 :: r) (.double x :: st) :=
  fun H locs ls hW hS hl => lv_dstore C.1.1 C.1.2.1 hd hl hn rfl (fun ls' h' => k H locs ls' hW hS (lh2 (lv := (a0 :: a1 :: b :: b2 :: r)) (i := 2) h' h1))
theorem G.dstn2 (C : gCx p s m c cc nL own Ts args E A R cl sl) {pc : Nat}  {a0 a1 b b2 : Option Value} {r : List (Option Value)} {st : List Value} {x : UInt64} (hd : decode cc pc = .ok (.dstore_n 2, 1)) (hn : 2 + 1 < nL) (h1 : lv1 (a0 :: a1 :: b :: b2 :: r) 2 = true) (k : G p l e R s m args below meth c nL cl sl A Q E σ π o (pc + 1) (a0 :: a1 :: some (.double x) :: none :: r) st) : G p l e R s m args below meth c nL cl sl A Q E σ π o pc (a0 :: a1 :: b :: b2 :: r) (.double x :: st) :=
  fun H locs ls hW hS hl => lv_dstore_n (i := 2) C.1.1 C.1.2.1 hd rfl hl hn rfl (fun ls' h' => k H locs ls' hW hS (lh2 (lv := (a0 :: a1 :: b :: b2 :: r)) (i := 2) h' h1))
theorem G.dld3 (C : gCx p s m c cc nL own Ts args E A R cl sl) {pc : Nat}  {a0 a1 a2 : Option Value} {r : List (Option Value)} {st : List Value} {x : UInt64} (hd : decode cc pc = .ok (.dload 3, 2)) (k : G p l e R s m args below meth c nL cl sl A Q E σ π o (pc + 2) (a0 :: a1 :: a2 :: some (.double x) :: r) (.double x :: st)) : G p l e R s m args below meth c nL cl sl A Q E σ π o pc (a0 :: a1 :: a2 :: some (.double x) :: r) st :=
  fun H locs ls hW hS hl => lv_dload C.1.1 C.1.2.1 hd (hl.at rfl) (k H locs ls hW hS hl)
theorem G.dldn3 (C : gCx p s m c cc nL own Ts args E A R cl sl) {pc : Nat}  {a0 a1 a2 : Option Value} {r : List (Option Value)} {st : List Value} {x : UInt64} (hd : decode cc pc = .ok (.dload_n 3, 1)) (k : G p l e R s m args below meth c nL cl sl A Q E σ π o (pc + 1) (a0 :: a1 :: a2 :: some (.double x) :: r) (.double x :: st)) : G p l e R s m args below meth c nL cl sl A Q E σ π o pc (a0 :: a1 :: a2 :: some (.double x) :: r) st :=
  fun H locs ls hW hS hl => lv_dload_n C.1.1 C.1.2.1 hd rfl (hl.at rfl) (k H locs ls hW hS hl)
theorem G.dst3 (C : gCx p s m c cc nL own Ts args E A R cl sl) {pc : Nat}  {a0 a1 a2 b b2 : Option Value} {r : List (Option Value)} {st : List Value} {x : UInt64} (hd : decode cc pc = .ok (.dstore 3, 2)) (hn : 3 + 1 < nL) (h1 : lv1 (a0 :: a1 :: a2 :: b :: b2 :: r) 3 = true) (k : G p l e R s m args below meth c nL cl sl A Q E σ π o (pc + 2) (a0 :: a1 :: a2 :: some (.double x) :: none :: r) st) : G p l e R s m args below meth c nL cl sl A Q E σ π o pc (a0 :: a1 :: a2 :: b :: b2 :: r) (.double x :: st) :=
  fun H locs ls hW hS hl => lv_dstore C.1.1 C.1.2.1 hd hl hn rfl (fun ls' h' => k H locs ls' hW hS (lh2 (lv := (a0 :: a1 :: a2 :: b :: b2 :: r)) (i := 3) h' h1))
theorem G.dstn3 (C : gCx p s m c cc nL own Ts args E A R cl sl) {pc : Nat}  {a0 a1 a2 b b2 : Option Value} {r : List (Option Value)} {st : List Value} {x : UInt64} (hd : decode cc pc = .ok (.dstore_n 3, 1)) (hn : 3 + 1 < nL) (h1 : lv1 (a0 :: a1 :: a2 :: b :: b2 :: r) 3 = true) (k : G p l e R s m args below meth c nL cl sl A Q E σ π o (pc + 1) (a0 :: a1 :: a2 :: some (.double x) :: none :: r) st) : G p l e R s m args below meth c nL cl sl A Q E σ π o pc (a0 :: a1 :: a2 :: b :: b2 :: r) (.double x :: st) :=
  fun H locs ls hW hS hl => lv_dstore_n (i := 3) C.1.1 C.1.2.1 hd rfl hl hn rfl (fun ls' h' => k H locs ls' hW hS (lh2 (lv := (a0 :: a1 :: a2 :: b :: b2 :: r)) (i := 3) h' h1))
theorem G.dld4 (C : gCx p s m c cc nL own Ts args E A R cl sl) {pc : Nat}  {a0 a1 a2 a3 : Option Value} {r : List (Option Value)} {st : List Value} {x : UInt64} (hd : decode cc pc = .ok (.dload 4, 2)) (k : G p l e R s m args below meth c nL cl sl A Q E σ π o (pc + 2) (a0 :: a1 :: a2 :: a3 :: some (.double x) :: r) (.double x :: st)) : G p l e R s m args below meth c nL cl sl A Q E σ π o pc (a0 :: a1 :: a2 :: a3 :: some (.double x) :: r) st :=
  fun H locs ls hW hS hl => lv_dload C.1.1 C.1.2.1 hd (hl.at rfl) (k H locs ls hW hS hl)
theorem G.dst4 (C : gCx p s m c cc nL own Ts args E A R cl sl) {pc : Nat}  {a0 a1 a2 a3 b b2 : Option Value} {r : List (Option Value)} {st : List Value} {x : UInt64} (hd : decode cc pc = .ok (.dstore 4, 2)) (hn : 4 + 1 < nL) (h1 : lv1 (a0 :: a1 :: a2 :: a3 :: b :: b2 :: r) 4 = true) (k : G p l e R s m args below meth c nL cl sl A Q E σ π o (pc + 2) (a0 :: a1 :: a2 :: a3 :: some (.double x) :: none :: r) st) : G p l e R s m args below meth c nL cl sl A Q E σ π o pc (a0 :: a1 :: a2 :: a3 :: b :: b2 :: r) (.double x :: st) :=
  fun H locs ls hW hS hl => lv_dstore C.1.1 C.1.2.1 hd hl hn rfl (fun ls' h' => k H locs ls' hW hS (lh2 (lv := (a0 :: a1 :: a2 :: a3 :: b :: b2 :: r)) (i := 4) h' h1))
theorem G.dld5 (C : gCx p s m c cc nL own Ts args E A R cl sl) {pc : Nat}  {a0 a1 a2 a3 a4 : Option Value} {r : List (Option Value)} {st : List Value} {x : UInt64} (hd : decode cc pc = .ok (.dload 5, 2)) (k : G p l e R s m args below meth c nL cl sl A Q E σ π o (pc + 2) (a0 :: a1 :: a2 :: a3 :: a4 :: some (.double x) :: r) (.double x :: st)) : G p l e R s m args below meth c nL cl sl A Q E σ π o pc (a0 :: a1 :: a2 :: a3 :: a4 :: some (.double x) :: r) st :=
  fun H locs ls hW hS hl => lv_dload C.1.1 C.1.2.1 hd (hl.at rfl) (k H locs ls hW hS hl)
theorem G.dst5 (C : gCx p s m c cc nL own Ts args E A R cl sl) {pc : Nat}  {a0 a1 a2 a3 a4 b b2 : Option Value} {r : List (Option Value)} {st : List Value} {x : UInt64} (hd : decode cc pc = .ok (.dstore 5, 2)) (hn : 5 + 1 < nL) (h1 : lv1 (a0 :: a1 :: a2 :: a3 :: a4 :: b :: b2 :: r) 5 = true) (k : G p l e R s m args below meth c nL cl sl A Q E σ π o (pc + 2) (a0 :: a1 :: a2 :: a3 :: a4 :: some (.double x) :: none :: r) st) : G p l e R s m args below meth c nL cl sl A Q E σ π o pc (a0 :: a1 :: a2 :: a3 :: a4 :: b :: b2 :: r) (.double x :: st) :=
  fun H locs ls hW hS hl => lv_dstore C.1.1 C.1.2.1 hd hl hn rfl (fun ls' h' => k H locs ls' hW hS (lh2 (lv := (a0 :: a1 :: a2 :: a3 :: a4 :: b :: b2 :: r)) (i := 5) h' h1))
theorem G.dld6 (C : gCx p s m c cc nL own Ts args E A R cl sl) {pc : Nat}  {a0 a1 a2 a3 a4 a5 : Option Value} {r : List (Option Value)} {st : List Value} {x : UInt64} (hd : decode cc pc = .ok (.dload 6, 2)) (k : G p l e R s m args below meth c nL cl sl A Q E σ π o (pc + 2) (a0 :: a1 :: a2 :: a3 :: a4 :: a5 :: some (.double x) :: r) (.double x :: st)) : G p l e R s m args below meth c nL cl sl A Q E σ π o pc (a0 :: a1 :: a2 :: a3 :: a4 :: a5 :: some (.double x) :: r) st :=
  fun H locs ls hW hS hl => lv_dload C.1.1 C.1.2.1 hd (hl.at rfl) (k H locs ls hW hS hl)
theorem G.dst6 (C : gCx p s m c cc nL own Ts args E A R cl sl) {pc : Nat}  {a0 a1 a2 a3 a4 a5 b b2 : Option Value} {r : List (Option Value)} {st : List Value} {x : UInt64} (hd : decode cc pc = .ok (.dstore 6, 2)) (hn : 6 + 1 < nL) (h1 : lv1 (a0 :: a1 :: a2 :: a3 :: a4 :: a5 :: b :: b2 :: r) 6 = true) (k : G p l e R s m args below meth c nL cl sl A Q E σ π o (pc + 2) (a0 :: a1 :: a2 :: a3 :: a4 :: a5 :: some (.double x) :: none :: r) st) : G p l e R s m args below meth c nL cl sl A Q E σ π o pc (a0 :: a1 :: a2 :: a3 :: a4 :: a5 :: b :: b2 :: r) (.double x :: st) :=
  fun H locs ls hW hS hl => lv_dstore C.1.1 C.1.2.1 hd hl hn rfl (fun ls' h' => k H locs ls' hW hS (lh2 (lv := (a0 :: a1 :: a2 :: a3 :: a4 :: a5 :: b :: b2 :: r)) (i := 6) h' h1))
theorem G.dld7 (C : gCx p s m c cc nL own Ts args E A R cl sl) {pc : Nat}  {a0 a1 a2 a3 a4 a5 a6 : Option Value} {r : List (Option Value)} {st : List Value} {x : UInt64} (hd : decode cc pc = .ok (.dload 7, 2)) (k : G p l e R s m args below meth c nL cl sl A Q E σ π o (pc + 2) (a0 :: a1 :: a2 :: a3 :: a4 :: a5 :: a6 :: some (.double x) :: r) (.double x :: st)) : G p l e R s m args below meth c nL cl sl A Q E σ π o pc (a0 :: a1 :: a2 :: a3 :: a4 :: a5 :: a6 :: some (.double x) :: r) st :=
  fun H locs ls hW hS hl => lv_dload C.1.1 C.1.2.1 hd (hl.at rfl) (k H locs ls hW hS hl)
theorem G.dst7 (C : gCx p s m c cc nL own Ts args E A R cl sl) {pc : Nat}  {a0 a1 a2 a3 a4 a5 a6 b b2 : Option Value} {r : List (Option Value)} {st : List Value} {x : UInt64} (hd : decode cc pc = .ok (.dstore 7, 2)) (hn : 7 + 1 < nL) (h1 : lv1 (a0 :: a1 :: a2 :: a3 :: a4 :: a5 :: a6 :: b :: b2 :: r) 7 = true) (k : G p l e R s m args below meth c nL cl sl A Q E σ π o (pc + 2) (a0 :: a1 :: a2 :: a3 :: a4 :: a5 :: a6 :: some (.double x) :: none :: r) st) : G p l e R s m args below meth c nL cl sl A Q E σ π o pc (a0 :: a1 :: a2 :: a3 :: a4 :: a5 :: a6 :: b :: b2 :: r) (.double x :: st) :=
  fun H locs ls hW hS hl => lv_dstore C.1.1 C.1.2.1 hd hl hn rfl (fun ls' h' => k H locs ls' hW hS (lh2 (lv := (a0 :: a1 :: a2 :: a3 :: a4 :: a5 :: a6 :: b :: b2 :: r)) (i := 7) h' h1))
theorem G.dld8 (C : gCx p s m c cc nL own Ts args E A R cl sl) {pc : Nat}  {a0 a1 a2 a3 a4 a5 a6 a7 : Option Value} {r : List (Option Value)} {st : List Value} {x : UInt64} (hd : decode cc pc = .ok (.dload 8, 2)) (k : G p l e R s m args below meth c nL cl sl A Q E σ π o (pc + 2) (a0 :: a1 :: a2 :: a3 :: a4 :: a5 :: a6 :: a7 :: some (.double x) :: r) (.double x :: st)) : G p l e R s m args below meth c nL cl sl A Q E σ π o pc (a0 :: a1 :: a2 :: a3 :: a4 :: a5 :: a6 :: a7 :: some (.double x) :: r) st :=
  fun H locs ls hW hS hl => lv_dload C.1.1 C.1.2.1 hd (hl.at rfl) (k H locs ls hW hS hl)
theorem G.dst8 (C : gCx p s m c cc nL own Ts args E A R cl sl) {pc : Nat}  {a0 a1 a2 a3 a4 a5 a6 a7 b b2 : Option Value} {r : List (Option Value)} {st : List Value} {x : UInt64} (hd : decode cc pc = .ok (.dstore 8, 2)) (hn : 8 + 1 < nL) (h1 : lv1 (a0 :: a1 :: a2 :: a3 :: a4 :: a5 :: a6 :: a7 :: b :: b2 :: r) 8 = true) (k : G p l e R s m args below meth c nL cl sl A Q E σ π o (pc + 2) (a0 :: a1 :: a2 :: a3 :: a4 :: a5 :: a6 :: a7 :: some (.double x) :: none :: r) st) : G p l e R s m args below meth c nL cl sl A Q E σ π o pc (a0 :: a1 :: a2 :: a3 :: a4 :: a5 :: a6 :: a7 :: b :: b2 :: r) (.double x :: st) :=
  fun H locs ls hW hS hl => lv_dstore C.1.1 C.1.2.1 hd hl hn rfl (fun ls' h' => k H locs ls' hW hS (lh2 (lv := (a0 :: a1 :: a2 :: a3 :: a4 :: a5 :: a6 :: a7 :: b :: b2 :: r)) (i := 8) h' h1))
theorem G.dld9 (C : gCx p s m c cc nL own Ts args E A R cl sl) {pc : Nat}  {a0 a1 a2 a3 a4 a5 a6 a7 a8 : Option Value} {r : List (Option Value)} {st : List Value} {x : UInt64} (hd : decode cc pc = .ok (.dload 9, 2)) (k : G p l e R s m args below meth c nL cl sl A Q E σ π o (pc + 2) (a0 :: a1 :: a2 :: a3 :: a4 :: a5 :: a6 :: a7 :: a8 :: some (.double x) :: r) (.double x :: st)) : G p l e R s m args below meth c nL cl sl A Q E σ π o pc (a0 :: a1 :: a2 :: a3 :: a4 :: a5 :: a6 :: a7 :: a8 :: some (.double x) :: r) st :=
  fun H locs ls hW hS hl => lv_dload C.1.1 C.1.2.1 hd (hl.at rfl) (k H locs ls hW hS hl)
theorem G.dst9 (C : gCx p s m c cc nL own Ts args E A R cl sl) {pc : Nat}  {a0 a1 a2 a3 a4 a5 a6 a7 a8 b b2 : Option Value} {r : List (Option Value)} {st : List Value} {x : UInt64} (hd : decode cc pc = .ok (.dstore 9, 2)) (hn : 9 + 1 < nL) (h1 : lv1 (a0 :: a1 :: a2 :: a3 :: a4 :: a5 :: a6 :: a7 :: a8 :: b :: b2 :: r) 9 = true) (k : G p l e R s m args below meth c nL cl sl A Q E σ π o (pc + 2) (a0 :: a1 :: a2 :: a3 :: a4 :: a5 :: a6 :: a7 :: a8 :: some (.double x) :: none :: r) st) : G p l e R s m args below meth c nL cl sl A Q E σ π o pc (a0 :: a1 :: a2 :: a3 :: a4 :: a5 :: a6 :: a7 :: a8 :: b :: b2 :: r) (.double x :: st) :=
  fun H locs ls hW hS hl => lv_dstore C.1.1 C.1.2.1 hd hl hn rfl (fun ls' h' => k H locs ls' hW hS (lh2 (lv := (a0 :: a1 :: a2 :: a3 :: a4 :: a5 :: a6 :: a7 :: a8 :: b :: b2 :: r)) (i := 9) h' h1))
theorem G.iadd (C : gCx p s m c cc nL own Ts args E A R cl sl) {pc : Nat}  {lv : List (Option Value)} {st : List Value} {x y : Int32} (hd : decode cc pc = .ok (.iadd, 1)) (k : G p l e R s m args below meth c nL cl sl A Q E σ π o (pc + 1) lv (.int (x + y) :: st)) : G p l e R s m args below meth c nL cl sl A Q E σ π o pc lv (.int y :: .int x :: st) :=
  fun H locs ls hW hS hl => lv_iadd C.1.1 C.1.2.1 hd (k H locs ls hW hS hl)
theorem G.isub (C : gCx p s m c cc nL own Ts args E A R cl sl) {pc : Nat}  {lv : List (Option Value)} {st : List Value} {x y : Int32} (hd : decode cc pc = .ok (.isub, 1)) (k : G p l e R s m args below meth c nL cl sl A Q E σ π o (pc + 1) lv (.int (x - y) :: st)) : G p l e R s m args below meth c nL cl sl A Q E σ π o pc lv (.int y :: .int x :: st) :=
  fun H locs ls hW hS hl => lv_isub C.1.1 C.1.2.1 hd (k H locs ls hW hS hl)
theorem G.imul (C : gCx p s m c cc nL own Ts args E A R cl sl) {pc : Nat}  {lv : List (Option Value)} {st : List Value} {x y : Int32} (hd : decode cc pc = .ok (.imul, 1)) (k : G p l e R s m args below meth c nL cl sl A Q E σ π o (pc + 1) lv (.int (x * y) :: st)) : G p l e R s m args below meth c nL cl sl A Q E σ π o pc lv (.int y :: .int x :: st) :=
  fun H locs ls hW hS hl => lv_imul C.1.1 C.1.2.1 hd (k H locs ls hW hS hl)
theorem G.iand (C : gCx p s m c cc nL own Ts args E A R cl sl) {pc : Nat}  {lv : List (Option Value)} {st : List Value} {x y : Int32} (hd : decode cc pc = .ok (.iand, 1)) (k : G p l e R s m args below meth c nL cl sl A Q E σ π o (pc + 1) lv (.int (x &&& y) :: st)) : G p l e R s m args below meth c nL cl sl A Q E σ π o pc lv (.int y :: .int x :: st) :=
  fun H locs ls hW hS hl => lv_iand C.1.1 C.1.2.1 hd (k H locs ls hW hS hl)
theorem G.ladd (C : gCx p s m c cc nL own Ts args E A R cl sl) {pc : Nat}  {lv : List (Option Value)} {st : List Value} {x y : Int64} (hd : decode cc pc = .ok (.ladd, 1)) (k : G p l e R s m args below meth c nL cl sl A Q E σ π o (pc + 1) lv (.long (x + y) :: st)) : G p l e R s m args below meth c nL cl sl A Q E σ π o pc lv (.long y :: .long x :: st) :=
  fun H locs ls hW hS hl => lv_ladd C.1.1 C.1.2.1 hd (k H locs ls hW hS hl)
theorem G.lsub (C : gCx p s m c cc nL own Ts args E A R cl sl) {pc : Nat}  {lv : List (Option Value)} {st : List Value} {x y : Int64} (hd : decode cc pc = .ok (.lsub, 1)) (k : G p l e R s m args below meth c nL cl sl A Q E σ π o (pc + 1) lv (.long (x - y) :: st)) : G p l e R s m args below meth c nL cl sl A Q E σ π o pc lv (.long y :: .long x :: st) :=
  fun H locs ls hW hS hl => lv_lsub C.1.1 C.1.2.1 hd (k H locs ls hW hS hl)
theorem G.lmul (C : gCx p s m c cc nL own Ts args E A R cl sl) {pc : Nat}  {lv : List (Option Value)} {st : List Value} {x y : Int64} (hd : decode cc pc = .ok (.lmul, 1)) (k : G p l e R s m args below meth c nL cl sl A Q E σ π o (pc + 1) lv (.long (x * y) :: st)) : G p l e R s m args below meth c nL cl sl A Q E σ π o pc lv (.long y :: .long x :: st) :=
  fun H locs ls hW hS hl => lv_lmul C.1.1 C.1.2.1 hd (k H locs ls hW hS hl)
theorem G.irem (C : gCx p s m c cc nL own Ts args E A R cl sl) {pc : Nat}  {lv : List (Option Value)} {st : List Value} {x y : Int32} (hd : decode cc pc = .ok (.irem, 1)) (hne : ¬ y = 0) (k : G p l e R s m args below meth c nL cl sl A Q E σ π o (pc + 1) lv (.int (x - x / y * y) :: st)) : G p l e R s m args below meth c nL cl sl A Q E σ π o pc lv (.int y :: .int x :: st) :=
  fun H locs ls hW hS hl => lv_irem C.1.1 C.1.2.1 hd hne (k H locs ls hW hS hl)
theorem G.idiv (C : gCx p s m c cc nL own Ts args E A R cl sl) {pc : Nat}  {lv : List (Option Value)} {st : List Value} {x y : Int32} (hd : decode cc pc = .ok (.idiv, 1)) (hne : ¬ y = 0) (k : G p l e R s m args below meth c nL cl sl A Q E σ π o (pc + 1) lv (.int (x / y) :: st)) : G p l e R s m args below meth c nL cl sl A Q E σ π o pc lv (.int y :: .int x :: st) :=
  fun H locs ls hW hS hl => lv_idiv C.1.1 C.1.2.1 hd hne (k H locs ls hW hS hl)
theorem G.i2l (C : gCx p s m c cc nL own Ts args E A R cl sl) {pc : Nat}  {lv : List (Option Value)} {st : List Value} {x : Int32} (hd : decode cc pc = .ok (.i2l, 1)) (k : G p l e R s m args below meth c nL cl sl A Q E σ π o (pc + 1) lv (.long x.toInt64 :: st)) : G p l e R s m args below meth c nL cl sl A Q E σ π o pc lv (.int x :: st) :=
  fun H locs ls hW hS hl => lv_i2l C.1.1 C.1.2.1 hd rfl (k H locs ls hW hS hl)
theorem G.i2d (C : gCx p s m c cc nL own Ts args E A R cl sl) {pc : Nat}  {lv : List (Option Value)} {st : List Value} {x : Int32} (hd : decode cc pc = .ok (.i2d, 1)) (k : G p l e R s m args below meth c nL cl sl A Q E σ π o (pc + 1) lv (.double (FP.i2d x) :: st)) : G p l e R s m args below meth c nL cl sl A Q E σ π o pc lv (.int x :: st) :=
  fun H locs ls hW hS hl => lv_i2d C.1.1 C.1.2.1 hd (k H locs ls hW hS hl)
theorem G.ddiv (C : gCx p s m c cc nL own Ts args E A R cl sl) {pc : Nat}  {lv : List (Option Value)} {st : List Value} {x y : UInt64} (hd : decode cc pc = .ok (.ddiv, 1)) (hne : vf_n64 (FP.ddiv x y)) (k : G p l e R s m args below meth c nL cl sl A Q E σ π o (pc + 1) lv (.double (FP.ddiv x y) :: st)) : G p l e R s m args below meth c nL cl sl A Q E σ π o pc lv (.double y :: .double x :: st) :=
  fun H locs ls hW hS hl => lv_ddiv C.1.1 C.1.2.1 hd hne (k H locs ls hW hS hl)
theorem G.dup (C : gCx p s m c cc nL own Ts args E A R cl sl) {pc : Nat}  {lv : List (Option Value)} {st : List Value} {v : Value} (hd : decode cc pc = .ok (.dup, 1)) (hc : v.category = 1) (k : G p l e R s m args below meth c nL cl sl A Q E σ π o (pc + 1) lv (v :: v :: st)) : G p l e R s m args below meth c nL cl sl A Q E σ π o pc lv (v :: st) :=
  fun H locs ls hW hS hl => lv_dup C.1.1 C.1.2.1 hd hc (k H locs ls hW hS hl)
theorem G.pop (C : gCx p s m c cc nL own Ts args E A R cl sl) {pc : Nat}  {lv : List (Option Value)} {st : List Value} {v : Value} (hd : decode cc pc = .ok (.pop, 1)) (hc : v.category = 1) (k : G p l e R s m args below meth c nL cl sl A Q E σ π o (pc + 1) lv st) : G p l e R s m args below meth c nL cl sl A Q E σ π o pc lv (v :: st) :=
  fun H locs ls hW hS hl => lv_pop C.1.1 C.1.2.1 hd hc (k H locs ls hW hS hl)
theorem G.topI {pc : Nat} {lv : List (Option Value)} {st : List Value} {x : Int32} (y : Int32) (h : x = y) (k : G p l e R s m args below meth c nL cl sl A Q E σ π o pc lv (.int y :: st)) : G p l e R s m args below meth c nL cl sl A Q E σ π o pc lv (.int x :: st) := by
  subst h; exact k
theorem G.dup2 (C : gCx p s m c cc nL own Ts args E A R cl sl) {pc : Nat}  {lv : List (Option Value)} {st : List Value} {v v2 : Value} (hd : decode cc pc = .ok (.dup2, 1)) (hc : v.category = 1) (hc2 : v2.category = 1) (k : G p l e R s m args below meth c nL cl sl A Q E σ π o (pc + 1) lv (v :: v2 :: v :: v2 :: st)) : G p l e R s m args below meth c nL cl sl A Q E σ π o pc lv (v :: v2 :: st) :=
  fun H locs ls hW hS hl => lv_dup2_11 C.1.1 C.1.2.1 hd hc hc2 (k H locs ls hW hS hl)
theorem G.icmp_eq (C : gCx p s m c cc nL own Ts args E A R cl sl) {pc : Nat}  {lv : List (Option Value)} {st : List Value} {x y : Int32} {off : Int} (tgt : Nat) (hd : decode cc pc = .ok (.if_icmp .eq off, 3)) (ht : (pc : Int) + off = (tgt : Int)) (kt : x = y → G p l e R s m args below meth c nL cl sl A Q E σ π o tgt lv st) (kf : ¬ (x = y) → G p l e R s m args below meth c nL cl sl A Q E σ π o (pc + 3) lv st) : G p l e R s m args below meth c nL cl sl A Q E σ π o pc lv (.int y :: .int x :: st) :=
  fun H locs ls hW hS hl => lv_icmp_eq C.1.1 C.1.2.1 hd ht (fun h => kt h H locs ls hW hS hl) (fun h => kf h H locs ls hW hS hl)
theorem G.icmp_ne (C : gCx p s m c cc nL own Ts args E A R cl sl) {pc : Nat}  {lv : List (Option Value)} {st : List Value} {x y : Int32} {off : Int} (tgt : Nat) (hd : decode cc pc = .ok (.if_icmp .ne off, 3)) (ht : (pc : Int) + off = (tgt : Int)) (kt : ¬ x = y → G p l e R s m args below meth c nL cl sl A Q E σ π o tgt lv st) (kf : x = y → G p l e R s m args below meth c nL cl sl A Q E σ π o (pc + 3) lv st) : G p l e R s m args below meth c nL cl sl A Q E σ π o pc lv (.int y :: .int x :: st) :=
  fun H locs ls hW hS hl => lv_icmp_ne C.1.1 C.1.2.1 hd ht (fun h => kt h H locs ls hW hS hl) (fun h => kf h H locs ls hW hS hl)
theorem G.icmp_lt (C : gCx p s m c cc nL own Ts args E A R cl sl) {pc : Nat}  {lv : List (Option Value)} {st : List Value} {x y : Int32} {off : Int} (tgt : Nat) (hd : decode cc pc = .ok (.if_icmp .lt off, 3)) (ht : (pc : Int) + off = (tgt : Int)) (kt : x < y → G p l e R s m args below meth c nL cl sl A Q E σ π o tgt lv st) (kf : ¬ (x < y) → G p l e R s m args below meth c nL cl sl A Q E σ π o (pc + 3) lv st) : G p l e R s m args below meth c nL cl sl A Q E σ π o pc lv (.int y :: .int x :: st) :=
  fun H locs ls hW hS hl => lv_icmp_lt C.1.1 C.1.2.1 hd ht (fun h => kt h H locs ls hW hS hl) (fun h => kf h H locs ls hW hS hl)
theorem G.icmp_ge (C : gCx p s m c cc nL own Ts args E A R cl sl) {pc : Nat}  {lv : List (Option Value)} {st : List Value} {x y : Int32} {off : Int} (tgt : Nat) (hd : decode cc pc = .ok (.if_icmp .ge off, 3)) (ht : (pc : Int) + off = (tgt : Int)) (kt : y ≤ x → G p l e R s m args below meth c nL cl sl A Q E σ π o tgt lv st) (kf : ¬ (y ≤ x) → G p l e R s m args below meth c nL cl sl A Q E σ π o (pc + 3) lv st) : G p l e R s m args below meth c nL cl sl A Q E σ π o pc lv (.int y :: .int x :: st) :=
  fun H locs ls hW hS hl => lv_icmp_ge C.1.1 C.1.2.1 hd ht (fun h => kt h H locs ls hW hS hl) (fun h => kf h H locs ls hW hS hl)
theorem G.icmp_gt (C : gCx p s m c cc nL own Ts args E A R cl sl) {pc : Nat}  {lv : List (Option Value)} {st : List Value} {x y : Int32} {off : Int} (tgt : Nat) (hd : decode cc pc = .ok (.if_icmp .gt off, 3)) (ht : (pc : Int) + off = (tgt : Int)) (kt : y < x → G p l e R s m args below meth c nL cl sl A Q E σ π o tgt lv st) (kf : ¬ (y < x) → G p l e R s m args below meth c nL cl sl A Q E σ π o (pc + 3) lv st) : G p l e R s m args below meth c nL cl sl A Q E σ π o pc lv (.int y :: .int x :: st) :=
  fun H locs ls hW hS hl => lv_icmp_gt C.1.1 C.1.2.1 hd ht (fun h => kt h H locs ls hW hS hl) (fun h => kf h H locs ls hW hS hl)
theorem G.icmp_le (C : gCx p s m c cc nL own Ts args E A R cl sl) {pc : Nat}  {lv : List (Option Value)} {st : List Value} {x y : Int32} {off : Int} (tgt : Nat) (hd : decode cc pc = .ok (.if_icmp .le off, 3)) (ht : (pc : Int) + off = (tgt : Int)) (kt : x ≤ y → G p l e R s m args below meth c nL cl sl A Q E σ π o tgt lv st) (kf : ¬ (x ≤ y) → G p l e R s m args below meth c nL cl sl A Q E σ π o (pc + 3) lv st) : G p l e R s m args below meth c nL cl sl A Q E σ π o pc lv (.int y :: .int x :: st) :=
  fun H locs ls hW hS hl => lv_icmp_le C.1.1 C.1.2.1 hd ht (fun h => kt h H locs ls hW hS hl) (fun h => kf h H locs ls hW hS hl)
theorem G.if_eq (C : gCx p s m c cc nL own Ts args E A R cl sl) {pc : Nat}  {lv : List (Option Value)} {st : List Value} {x : Int32} {off : Int} (tgt : Nat) (hd : decode cc pc = .ok (.ifCond .eq off, 3)) (ht : (pc : Int) + off = (tgt : Int)) (kt : x = 0 → G p l e R s m args below meth c nL cl sl A Q E σ π o tgt lv st) (kf : ¬ (x = 0) → G p l e R s m args below meth c nL cl sl A Q E σ π o (pc + 3) lv st) : G p l e R s m args below meth c nL cl sl A Q E σ π o pc lv (.int x :: st) :=
  fun H locs ls hW hS hl => lv_if_eq C.1.1 C.1.2.1 hd ht (fun h => kt h H locs ls hW hS hl) (fun h => kf h H locs ls hW hS hl)
theorem G.if_ne (C : gCx p s m c cc nL own Ts args E A R cl sl) {pc : Nat}  {lv : List (Option Value)} {st : List Value} {x : Int32} {off : Int} (tgt : Nat) (hd : decode cc pc = .ok (.ifCond .ne off, 3)) (ht : (pc : Int) + off = (tgt : Int)) (kt : ¬ x = 0 → G p l e R s m args below meth c nL cl sl A Q E σ π o tgt lv st) (kf : x = 0 → G p l e R s m args below meth c nL cl sl A Q E σ π o (pc + 3) lv st) : G p l e R s m args below meth c nL cl sl A Q E σ π o pc lv (.int x :: st) :=
  fun H locs ls hW hS hl => lv_if_ne C.1.1 C.1.2.1 hd ht (fun h => kt h H locs ls hW hS hl) (fun h => kf h H locs ls hW hS hl)
theorem G.if_lt (C : gCx p s m c cc nL own Ts args E A R cl sl) {pc : Nat}  {lv : List (Option Value)} {st : List Value} {x : Int32} {off : Int} (tgt : Nat) (hd : decode cc pc = .ok (.ifCond .lt off, 3)) (ht : (pc : Int) + off = (tgt : Int)) (kt : x < 0 → G p l e R s m args below meth c nL cl sl A Q E σ π o tgt lv st) (kf : ¬ (x < 0) → G p l e R s m args below meth c nL cl sl A Q E σ π o (pc + 3) lv st) : G p l e R s m args below meth c nL cl sl A Q E σ π o pc lv (.int x :: st) :=
  fun H locs ls hW hS hl => lv_if_lt C.1.1 C.1.2.1 hd ht (fun h => kt h H locs ls hW hS hl) (fun h => kf h H locs ls hW hS hl)
theorem G.if_ge (C : gCx p s m c cc nL own Ts args E A R cl sl) {pc : Nat}  {lv : List (Option Value)} {st : List Value} {x : Int32} {off : Int} (tgt : Nat) (hd : decode cc pc = .ok (.ifCond .ge off, 3)) (ht : (pc : Int) + off = (tgt : Int)) (kt : 0 ≤ x → G p l e R s m args below meth c nL cl sl A Q E σ π o tgt lv st) (kf : ¬ (0 ≤ x) → G p l e R s m args below meth c nL cl sl A Q E σ π o (pc + 3) lv st) : G p l e R s m args below meth c nL cl sl A Q E σ π o pc lv (.int x :: st) :=
  fun H locs ls hW hS hl => lv_if_ge C.1.1 C.1.2.1 hd ht (fun h => kt h H locs ls hW hS hl) (fun h => kf h H locs ls hW hS hl)
theorem G.if_gt (C : gCx p s m c cc nL own Ts args E A R cl sl) {pc : Nat}  {lv : List (Option Value)} {st : List Value} {x : Int32} {off : Int} (tgt : Nat) (hd : decode cc pc = .ok (.ifCond .gt off, 3)) (ht : (pc : Int) + off = (tgt : Int)) (kt : 0 < x → G p l e R s m args below meth c nL cl sl A Q E σ π o tgt lv st) (kf : ¬ (0 < x) → G p l e R s m args below meth c nL cl sl A Q E σ π o (pc + 3) lv st) : G p l e R s m args below meth c nL cl sl A Q E σ π o pc lv (.int x :: st) :=
  fun H locs ls hW hS hl => lv_if_gt C.1.1 C.1.2.1 hd ht (fun h => kt h H locs ls hW hS hl) (fun h => kf h H locs ls hW hS hl)
theorem G.if_le (C : gCx p s m c cc nL own Ts args E A R cl sl) {pc : Nat}  {lv : List (Option Value)} {st : List Value} {x : Int32} {off : Int} (tgt : Nat) (hd : decode cc pc = .ok (.ifCond .le off, 3)) (ht : (pc : Int) + off = (tgt : Int)) (kt : x ≤ 0 → G p l e R s m args below meth c nL cl sl A Q E σ π o tgt lv st) (kf : ¬ (x ≤ 0) → G p l e R s m args below meth c nL cl sl A Q E σ π o (pc + 3) lv st) : G p l e R s m args below meth c nL cl sl A Q E σ π o pc lv (.int x :: st) :=
  fun H locs ls hW hS hl => lv_if_le C.1.1 C.1.2.1 hd ht (fun h => kt h H locs ls hW hS hl) (fun h => kf h H locs ls hW hS hl)
theorem G.if_eqB (C : gCx p s m c cc nL own Ts args E A R cl sl) {pc : Nat}  {lv : List (Option Value)} {st : List Value} {b : Bool} {off : Int} (tgt : Nat) (hd : decode cc pc = .ok (.ifCond .eq off, 3)) (ht : (pc : Int) + off = (tgt : Int)) (kt : b = false → G p l e R s m args below meth c nL cl sl A Q E σ π o tgt lv st) (kf : b = true → G p l e R s m args below meth c nL cl sl A Q E σ π o (pc + 3) lv st) : G p l e R s m args below meth c nL cl sl A Q E σ π o pc lv (.int (bI b) :: st) :=
  G.if_eq C tgt hd ht (fun h => kt (bI_0.mp h)) (fun h => kf (bI_n0.mp h))
theorem G.if_neB (C : gCx p s m c cc nL own Ts args E A R cl sl) {pc : Nat}  {lv : List (Option Value)} {st : List Value} {b : Bool} {off : Int} (tgt : Nat) (hd : decode cc pc = .ok (.ifCond .ne off, 3)) (ht : (pc : Int) + off = (tgt : Int)) (kt : b = true → G p l e R s m args below meth c nL cl sl A Q E σ π o tgt lv st) (kf : b = false → G p l e R s m args below meth c nL cl sl A Q E σ π o (pc + 3) lv st) : G p l e R s m args below meth c nL cl sl A Q E σ π o pc lv (.int (bI b) :: st) :=
  G.if_ne C tgt hd ht (fun h => kt (bI_n0.mp h)) (fun h => kf (bI_0.mp h))
theorem G.tabIn (C : gCx p s m c cc nL own Ts args E A R cl sl) {pc : Nat}  {lv : List (Option Value)} {st : List Value} {dflt lo hi : Int} {offs : Array Int} {len : Nat} {x : Int32} {off : Int} (tgt : Nat) (hd : decode cc pc = .ok (.tableswitch dflt lo hi offs, len)) (h1 : ¬ x.toInt < lo) (h2 : ¬ hi < x.toInt) (ho : offs[(x.toInt - lo).toNat]? = some off) (ht : (pc : Int) + off = (tgt : Int)) (k : G p l e R s m args below meth c nL cl sl A Q E σ π o tgt lv st) : G p l e R s m args below meth c nL cl sl A Q E σ π o pc lv (.int x :: st) :=
  fun H locs ls hW hS hl => lv_tableIn C.1.1 C.1.2.1 hd h1 h2 ho ht (k H locs ls hW hS hl)
theorem G.tabOut (C : gCx p s m c cc nL own Ts args E A R cl sl) {pc : Nat}  {lv : List (Option Value)} {st : List Value} {dflt lo hi : Int} {offs : Array Int} {len : Nat} {x : Int32} (tgt : Nat) (hd : decode cc pc = .ok (.tableswitch dflt lo hi offs, len)) (h : x.toInt < lo ∨ hi < x.toInt) (ht : (pc : Int) + dflt = (tgt : Int)) (k : G p l e R s m args below meth c nL cl sl A Q E σ π o tgt lv st) : G p l e R s m args below meth c nL cl sl A Q E σ π o pc lv (.int x :: st) :=
  fun H locs ls hW hS hl => lv_tableOut C.1.1 C.1.2.1 hd h ht (k H locs ls hW hS hl)
theorem G.lookup (C : gCx p s m c cc nL own Ts args E A R cl sl) {pc : Nat}  {lv : List (Option Value)} {st : List Value} {dflt : Int} {ps : Array (Int × Int)} {len : Nat} {x : Int32} {off : Int} (tgt : Nat) (hd : decode cc pc = .ok (.lookupswitch dflt ps, len)) (hp : (ps.toList.zip (ps.toList.drop 1)).all (fun (a, next) => a.1 < next.1) = true) (ho : Op.lookupswitch.offset ps.toList dflt x.toInt = off) (ht : (pc : Int) + off = (tgt : Int)) (k : G p l e R s m args below meth c nL cl sl A Q E σ π o tgt lv st) : G p l e R s m args below meth c nL cl sl A Q E σ π o pc lv (.int x :: st) :=
  fun H locs ls hW hS hl => lv_lookup C.1.1 C.1.2.1 hd hp ho ht (k H locs ls hW hS hl)
theorem G.iald (C : gCx p s m c cc nL own Ts args E A R cl sl) {pc : Nat}  {lv : List (Option Value)} {st : List Value} {i j n d0 : Nat} {x : Int32} (hn : gN i j = some n) (hv : gV i j) (hx : vp_in x n) (hk : ix x = d0) (hd : decode cc pc = .ok (.iaload, 1)) (k : G p l e R s m args below meth c nL cl sl A Q E σ π o (pc + 1) lv (.int (σ i j d0) :: st)) : G p l e R s m args below meth c nL cl sl A Q E σ π o pc lv (.int x :: .ref (E.2.1 i j) :: st) :=
  fun H locs ls hW hS hl => by
    subst hk
    exact va_iald C.1.1 C.1.2.1 C.2.1.1 (hW.one hv (gC_arr hn hv)) 0 0 rfl rfl hx hd (k H locs ls hW hS hl)
theorem G.ialdU (C : gCx p s m c cc nL own Ts args E A R cl sl) {pc : Nat}  {lv : List (Option Value)} {st : List Value} {i j n d0 : Nat} {x : Int32} {d : Nat → Nat → Int32} (hn : gN i j = some n) (hv : gV i j) (hx : vp_in x n) (hk : ix x = d0) (hd : decode cc pc = .ok (.iaload, 1)) (k : G p l e R s m args below meth c nL cl sl A Q E (gU σ i d) π o (pc + 1) lv (.int (d j d0) :: st)) : G p l e R s m args below meth c nL cl sl A Q E (gU σ i d) π o pc lv (.int x :: .ref (E.2.1 i j) :: st) :=
  G.iald C hn hv hx hk hd (by rw [gU_at]; exact k)
theorem G.iast (C : gCx p s m c cc nL own Ts args E A R cl sl) {pc : Nat}  {lv : List (Option Value)} {st : List Value} {i j n d0 : Nat} {x y : Int32} (hn : gN i j = some n) (hv : gV i j) (hx : vp_in x n) (hk : ix x = d0) (hd : decode cc pc = .ok (.iastore, 1)) (k : G p l e R s m args below meth c nL cl sl A Q E (gU σ i (cW (σ i) j d0 y)) π o (pc + 1) lv st) : G p l e R s m args below meth c nL cl sl A Q E σ π o pc lv (.int y :: .int x :: .ref (E.2.1 i j) :: st) :=
  fun H locs ls hW hS hl => by
    subst hk
    have h1 : H[E.2.1 i j]? = some (vp_cell E.2.2.1 (n, .inl (σ i j))) := by
      have := hW i j hv
      rw [gC_arr hn hv] at this
      exact this
    refine W.iast C.1.1 C.1.2.1 h1 ((C.2.1.1.2 0 (E.2.2.1, .int) rfl).1 n (fun d => .int (σ i j d))) (fun q => by cases q) (by show ¬ (x < 0 ∨ (arrV _ _ _).slots.size ≤ _); rw [arrV_size]; exact hx) rfl rfl hd fun H1 e1 z oq => ?_
    refine k H1 _ ls (hW.put C.2.1.2.2 hv hn ?_ oq) (hS.put z oq (C.2.2.1 _ ⟨i, j, hv, rfl⟩)) hl
    rw [e1]
    rw [vp_cell_i, vp_cell_i, arrV_store]
    congr 2
    funext q
    by_cases hq : q = x.toNatClampNeg
    · subst hq
      simp [updV, upd, ix]
    · simp [updV, upd, hq, ix]
theorem G.iastU (C : gCx p s m c cc nL own Ts args E A R cl sl) {pc : Nat}  {lv : List (Option Value)} {st : List Value} {i j n d0 : Nat} {x y : Int32} {d : Nat → Nat → Int32} (hn : gN i j = some n) (hv : gV i j) (hx : vp_in x n) (hk : ix x = d0) (hd : decode cc pc = .ok (.iastore, 1)) (k : G p l e R s m args below meth c nL cl sl A Q E (gU σ i (cW d j d0 y)) π o (pc + 1) lv st) : G p l e R s m args below meth c nL cl sl A Q E (gU σ i d) π o pc lv (.int y :: .int x :: .ref (E.2.1 i j) :: st) :=
  G.iast C hn hv hx hk hd (by rw [gU_at, gU_gU]; exact k)
theorem G.aaldD (C : gCx p s m c cc nL own Ts args E A R cl sl) {pc : Nat}  {lv : List (Option Value)} {st : List Value} {i : Nat} {x : Int32} (hi : i < 9) (j : Nat) (hx : vp_in x 8) (hj : 2 + ix x = j) (hd : decode cc pc = .ok (.aaload, 1)) (k : G p l e R s m args below meth c nL cl sl A Q E σ π o (pc + 1) lv (.ref (E.2.1 i j) :: st)) : G p l e R s m args below meth c nL cl sl A Q E σ π o pc lv (.int x :: .ref (E.2.1 i 1) :: st) :=
  fun H locs ls hW hS hl => by
    subst hj
    have hP := hW i 1 (Or.inl ⟨hi, by omega⟩)
    unfold gC at hP
    rw [if_pos hi] at hP
    have hlt : x.toNatClampNeg < 8 := Nat.not_le.mp fun q => hx (Or.inr q)
    exact W.aald (v := .ref (E.2.1 i (2 + ix x))) (ty := .array .int) C.1.1 C.1.2.1 hP ((C.2.1.1.2 1 (E.2.2.2.1, .array .int) rfl).1 8 (fun k => va_rf (some (E.2.1 i (2 + k))))) rfl (fun q => by cases q) (by show ¬ (x < 0 ∨ (arrV _ _ _).slots.size ≤ _); rw [arrV_size]; exact hx) (by show (arrV _ _ _).slots[_]? = _; rw [arrV_read _ _ hlt]; rfl) rfl rfl hd (k H locs ls hW hS hl)
theorem G.aaldH (C : gCx p s m c cc nL own Ts args E A R cl sl) {pc : Nat}  {lv : List (Option Value)} {st : List Value} {i : Nat} {x : Int32} (hi : i < 9) (j : Nat) (hx : vp_in x 3) (hj : 11 + ix x = j) (hd : decode cc pc = .ok (.aaload, 1)) (k : G p l e R s m args below meth c nL cl sl A Q E σ π o (pc + 1) lv (.ref (E.2.1 i j) :: st)) : G p l e R s m args below meth c nL cl sl A Q E σ π o pc lv (.int x :: .ref (E.2.1 i 10) :: st) :=
  fun H locs ls hW hS hl => by
    subst hj
    have hP := hW i 10 (Or.inl ⟨hi, by omega⟩)
    unfold gC at hP
    rw [if_pos hi] at hP
    have hlt : x.toNatClampNeg < 3 := Nat.not_le.mp fun q => hx (Or.inr q)
    exact W.aald (v := .ref (E.2.1 i (11 + ix x))) (ty := .array .int) C.1.1 C.1.2.1 hP ((C.2.1.1.2 1 (E.2.2.2.1, .array .int) rfl).1 3 (fun k => va_rf (some (E.2.1 i (11 + k))))) rfl (fun q => by cases q) (by show ¬ (x < 0 ∨ (arrV _ _ _).slots.size ≤ _); rw [arrV_size]; exact hx) (by show (arrV _ _ _).slots[_]? = _; rw [arrV_read _ _ hlt]; rfl) rfl rfl hd (k H locs ls hW hS hl)
/-- less is known of the locals -/
def gSub : List (Option Value) → List (Option Value) → Prop
  | [], _ => True
  | none :: r, [] => gSub r []
  | none :: r, _ :: r' => gSub r r'
  | some v :: r, a :: r' => a = some v ∧ gSub r r'
  | some _ :: _, [] => False
theorem gSub_ok : ∀ (a b : List (Option Value)), gSub a b → ∀ (k : Nat) (v : Value), a[k]? = some (some v) → b[k]? = some (some v)
  | [], _, _, k, v, h => by simp at h
  | none :: r, [], hs, k, v, h => by
    cases k with
    | zero => simp at h
    | succ k => have := gSub_ok r [] hs k v (by simpa using h); simp at this
  | none :: r, x :: r', hs, k, v, h => by
    cases k with
    | zero => simp at h
    | succ k => have := gSub_ok r r' hs k v (by simpa using h); simpa using this
  | some w :: r, [], hs, k, v, h => hs.elim
  | some w :: r, x :: r', hs, k, v, h => by
    cases k with
    | zero => obtain ⟨h1, -⟩ := hs; simp at h; subst h1; subst h; rfl
    | succ k => have := gSub_ok r r' hs.2 k v (by simpa using h); simpa using this
theorem G.back {pc : Nat} {lv lv' : List (Option Value)} {st : List Value} (h : G p l e R s m args below meth c nL cl sl A Q E σ' π o pc lv' st) (e1 : σ = σ') (hl : gSub lv' lv) : G p l e R s m args below meth c nL cl sl A Q E σ π o pc lv st := by
  subst e1
  exact G.less (gSub_ok _ _ hl) h
end GL
end
section
/-! fields, calls, entries, returns -/
theorem gC_co {E : gEn} {σ : gSt} {π : Nat → Nat} {o : Int64} {i : Nat} (hi : i < 9) : gC E σ π o i 0 = .inr (0, gFc E (σ i) i) := by unfold gC; rw [if_pos hi]; rfl
theorem gC_wa {E : gEn} {σ : gSt} {π : Nat → Nat} {o : Int64} {i : Nat} (hi : i < 9) : gC E σ π o i 17 = .inr (2, gFw E (σ i) i) := by unfold gC; rw [if_pos hi]; rfl
theorem gC_ma {E : gEn} {σ : gSt} {π : Nat → Nat} {o : Int64} : gC E σ π o 9 0 = .inr (3, gFm E (σ 9)) := rfl
theorem gC_re {E : gEn} {σ : gSt} {π : Nat → Nat} {o : Int64} : gC E σ π o 9 3 = .inr (1, gFr (σ 9)) := rfl
theorem gC_mo {E : gEn} {σ : gSt} {π : Nat → Nat} {o : Int64} : gC E σ π o 10 0 = .inr (4, gFd E (σ 10)) := rfl
theorem gV_c {i j : Nat} (hi : i < 9) (hj : j < 20) : gV i j := Or.inl ⟨hi, hj⟩
theorem gV_m {j : Nat} (hj : j < 4) : gV 9 j := Or.inr (Or.inl ⟨rfl, hj⟩)
theorem gV_d {j : Nat} (hj : j < 6) : gV 10 j := Or.inr (Or.inr (Or.inl ⟨rfl, hj⟩))
theorem gV_o : gV 11 0 := Or.inr (Or.inr (Or.inr ⟨rfl, by omega⟩))
theorem gN_c {i j n : Nat} (hi : i < 9) (h : (if j = 0 ∨ j = 1 ∨ j = 10 ∨ j = 17 then none else some (gLc j)) = some n) : gN i j = some n := by unfold gN; rw [if_pos hi]; exact h
theorem gO_c {i : Nat} (hi : i < 9) : gO i 0 = some 0 := by unfold gO; rw [if_pos hi]; rfl
theorem gO_w {i : Nat} (hi : i < 9) : gO i 17 = some 2 := by unfold gO; rw [if_pos hi]; rfl
theorem gO_m : gO 9 0 = some 3 := rfl
theorem gO_r : gO 9 3 = some 1 := rfl
theorem gO_d : gO 10 0 = some 4 := rfl
/-- the locals at a method's entry -/
def gLv (av : List Value) (n : Nat) : List (Option Value) := (lg_sl av).map (fun z => match z with | .val v => some v | _ => none) ++ List.replicate (n - (lg_sl av).length) none
theorem gLv_ok {av : List Value} {n : Nat} (h : (lg_sl av).length ≤ n) : lh ((lg_sl av ++ List.replicate (n - (lg_sl av).length) Slot.unset).toArray) n (gLv av n) := by
  have h0 := lv_entry av h
  refine ⟨h0.1, h0.2.1, fun q hq => ?_⟩
  have h1 := lvl_mem.mp hq
  unfold gLv at h1
  have hlen : q.1 < (lg_sl av).length := by
    rcases Nat.lt_or_ge q.1 (lg_sl av).length with z | z
    · exact z
    · rw [List.getElem?_append_right (by simpa using z)] at h1
      rw [List.getElem?_replicate] at h1
      split at h1 <;> simp at h1
  rw [List.getElem?_append_left (by simpa using hlen), List.getElem?_map] at h1
  have h2 : ((lg_sl av ++ List.replicate (n - (lg_sl av).length) Slot.unset).toArray)[q.1]? = (lg_sl av)[q.1]? := by
    rw [List.getElem?_toArray, List.getElem?_append_left hlen]
  rw [h2]
  cases hz : (lg_sl av)[q.1]? with
  | none => rw [hz] at h1; simp at h1
  | some z =>
    rw [hz] at h1
    cases z with
    | val v => simp at h1; rw [h1]
    | unset => simp at h1
    | second => simp at h1
def gQI (below : List Frame) (args : Array Value) (s : State) (r : Int32) (E : gEn) (σ' : gSt) (π' : Nat → Nat) (o' : Int64) : State → Prop := MQ below (va_Qi (S := Unit) (fun x _ => x = r) (fun _ t => CW E σ' π' o' t.heap) (gA E)) args s 0 0 (gA E)
def gQL (below : List Frame) (args : Array Value) (s : State) (r : Int64) (E : gEn) (σ' : gSt) (π' : Nat → Nat) (o' : Int64) : State → Prop := MQ below (va_Ql (S := Unit) (fun x _ => x = r) (fun _ t => CW E σ' π' o' t.heap) (gA E)) args s 0 0 (gA E)
def gQD (below : List Frame) (args : Array Value) (s : State) (r : UInt64) (E : gEn) (σ' : gSt) (π' : Nat → Nat) (o' : Int64) : State → Prop := MQ below (va_Qd (S := Unit) (fun x _ => x = r) (fun _ t => CW E σ' π' o' t.heap) (gA E)) args s 0 0 (gA E)
def gQV (below : List Frame) (args : Array Value) (s : State) (E : gEn) (σ' : gSt) (π' : Nat → Nat) (o' : Int64) : State → Prop := MQ below (va_Qv (S := Unit) (fun _ => True) (fun _ t => CW E σ' π' o' t.heap) (gA E)) args s 0 0 (gA E)
section GL2
variable {p : Program} {l : Launch} {e : Env} {R : Room} {s : State} {m : MethodId} {args : Array Value} {below : List Frame} {meth : Method} {c : Code} {Q : State → Prop} {cc : ByteArray} {own : String} {Ts : List Cond} {nL cl sl : Nat} {E : gEn} {A : Nat → Prop} {σ σ' : gSt} {π π' : Nat → Nat} {o o' : Int64}
theorem CtI.of {y : MethodName} {ws ws' : List Cond} {rm : Room} {maxL : Nat} {ret : Option FieldType} {av : List Value} {r : Int32} (lv : List (Option Value)) (hy : plainName y.cls = true) (hw : ws = Cond.code y cc maxL ret :: ws') (hown : y.cls = own) (hlen : (lg_sl av).length ≤ maxL) (hlv : gLv av maxL = lv)
    (body : ∀ (p : Program) (e : Env) (s : State) (m : MethodId) (args : Array Value) (below : List Frame) (meth : Method) (c : Code), gCx p s m c cc maxL own ws args E (gA E) rm 0 0 → meth.sig.returnType = ret → meth.locks = false → G p l e rm s m args below meth c maxL 0 0 (gA E) (gQI below args s r E σ' π' o') E σ π o 0 lv []) : CtI l y ws rm E av σ π o r σ' π' o' := by
  refine Met.ofW (cc := cc) (maxL := maxL) (ret := ret) hy hw ?_
  intro p e s m args below meth c s₁ B hml hv
  obtain ⟨rfl, hW, hK⟩ := hv
  have hts := atoms_spec (ws := ws) B.pre
  have hfo : s.vm.findClass own = some m.cls := by rw [← hown]; exact findClass_of_methodNamed B.named
  rw [lg_entry_eq]
  have hb := body p e s m av.toArray below meth c ⟨⟨B.exec, B.bytes, hml, hfo, hts⟩, hK, fun _ h => h, Nat.zero_le _, Nat.zero_le _⟩ B.returns B.notSynchronized
  exact hb s.heap [] _ hW va_S.rf (hlv ▸ gLv_ok hlen)
theorem CtL.of {y : MethodName} {ws ws' : List Cond} {rm : Room} {maxL : Nat} {ret : Option FieldType} {av : List Value} {r : Int64} (lv : List (Option Value)) (hy : plainName y.cls = true) (hw : ws = Cond.code y cc maxL ret :: ws') (hown : y.cls = own) (hlen : (lg_sl av).length ≤ maxL) (hlv : gLv av maxL = lv)
    (body : ∀ (p : Program) (e : Env) (s : State) (m : MethodId) (args : Array Value) (below : List Frame) (meth : Method) (c : Code), gCx p s m c cc maxL own ws args E (gA E) rm 0 0 → meth.sig.returnType = ret → meth.locks = false → G p l e rm s m args below meth c maxL 0 0 (gA E) (gQL below args s r E σ' π' o') E σ π o 0 lv []) : CtL l y ws rm E av σ π o r σ' π' o' := by
  refine Met.ofW (cc := cc) (maxL := maxL) (ret := ret) hy hw ?_
  intro p e s m args below meth c s₁ B hml hv
  obtain ⟨rfl, hW, hK⟩ := hv
  have hts := atoms_spec (ws := ws) B.pre
  have hfo : s.vm.findClass own = some m.cls := by rw [← hown]; exact findClass_of_methodNamed B.named
  rw [lg_entry_eq]
  have hb := body p e s m av.toArray below meth c ⟨⟨B.exec, B.bytes, hml, hfo, hts⟩, hK, fun _ h => h, Nat.zero_le _, Nat.zero_le _⟩ B.returns B.notSynchronized
  exact hb s.heap [] _ hW va_S.rf (hlv ▸ gLv_ok hlen)
theorem CtD.of {y : MethodName} {ws ws' : List Cond} {rm : Room} {maxL : Nat} {ret : Option FieldType} {av : List Value} {r : UInt64} (lv : List (Option Value)) (hy : plainName y.cls = true) (hw : ws = Cond.code y cc maxL ret :: ws') (hown : y.cls = own) (hlen : (lg_sl av).length ≤ maxL) (hlv : gLv av maxL = lv)
    (body : ∀ (p : Program) (e : Env) (s : State) (m : MethodId) (args : Array Value) (below : List Frame) (meth : Method) (c : Code), gCx p s m c cc maxL own ws args E (gA E) rm 0 0 → meth.sig.returnType = ret → meth.locks = false → G p l e rm s m args below meth c maxL 0 0 (gA E) (gQD below args s r E σ' π' o') E σ π o 0 lv []) : CtD l y ws rm E av σ π o r σ' π' o' := by
  refine Met.ofW (cc := cc) (maxL := maxL) (ret := ret) hy hw ?_
  intro p e s m args below meth c s₁ B hml hv
  obtain ⟨rfl, hW, hK⟩ := hv
  have hts := atoms_spec (ws := ws) B.pre
  have hfo : s.vm.findClass own = some m.cls := by rw [← hown]; exact findClass_of_methodNamed B.named
  rw [lg_entry_eq]
  have hb := body p e s m av.toArray below meth c ⟨⟨B.exec, B.bytes, hml, hfo, hts⟩, hK, fun _ h => h, Nat.zero_le _, Nat.zero_le _⟩ B.returns B.notSynchronized
  exact hb s.heap [] _ hW va_S.rf (hlv ▸ gLv_ok hlen)
theorem CtV.of {y : MethodName} {ws ws' : List Cond} {rm : Room} {maxL : Nat} {ret : Option FieldType} {av : List Value} (lv : List (Option Value)) (hy : plainName y.cls = true) (hw : ws = Cond.code y cc maxL ret :: ws') (hown : y.cls = own) (hlen : (lg_sl av).length ≤ maxL) (hlv : gLv av maxL = lv)
    (body : ∀ (p : Program) (e : Env) (s : State) (m : MethodId) (args : Array Value) (below : List Frame) (meth : Method) (c : Code), gCx p s m c cc maxL own ws args E (gA E) rm 0 0 → meth.sig.returnType = ret → meth.locks = false → G p l e rm s m args below meth c maxL 0 0 (gA E) (gQV below args s E σ' π' o') E σ π o 0 lv []) : CtV l y ws rm E av σ π o σ' π' o' := by
  refine Met.ofW (cc := cc) (maxL := maxL) (ret := ret) hy hw ?_
  intro p e s m args below meth c s₁ B hml hv
  obtain ⟨rfl, hW, hK⟩ := hv
  have hts := atoms_spec (ws := ws) B.pre
  have hfo : s.vm.findClass own = some m.cls := by rw [← hown]; exact findClass_of_methodNamed B.named
  rw [lg_entry_eq]
  have hb := body p e s m av.toArray below meth c ⟨⟨B.exec, B.bytes, hml, hfo, hts⟩, hK, fun _ h => h, Nat.zero_le _, Nat.zero_le _⟩ B.returns B.notSynchronized
  exact hb s.heap [] _ hW va_S.rf (hlv ▸ gLv_ok hlen)
theorem G.iret (C : gCx p s m c cc nL own Ts args E (gA E) R 0 0) (hk : meth.locks = false) {pc : Nat} {lv : List (Option Value)} {x r : Int32} (hr : meth.sig.returnType = some .int) (hd : decode cc pc = .ok (.ireturn, 1)) (e1 : x = r) (e2 : ∀ H, CW E σ π o H → CW E σ' π' o' H) : G p l e R s m args below meth c nL 0 0 (gA E) (gQI below args s r E σ' π' o') E σ π o pc lv [.int x] := fun H locs ls hW hS hl => W.iret C.1.1 C.1.2.1 hr (fun t ht hwm => ⟨⟨x, (), rfl, e1, by show CW _ _ _ _ _; rw [ht]; exact e2 H hW⟩, hS.F ht⟩) hS.2.2 hd hk
theorem G.zret (C : gCx p s m c cc nL own Ts args E (gA E) R 0 0) (hk : meth.locks = false) {pc : Nat} {lv : List (Option Value)} {x : Int32} {b : Bool} (hr : meth.sig.returnType = some .boolean) (hd : decode cc pc = .ok (.ireturn, 1)) (e1 : x = bI b) (e2 : ∀ H, CW E σ π o H → CW E σ' π' o' H) : G p l e R s m args below meth c nL 0 0 (gA E) (gQI below args s (bI b) E σ' π' o') E σ π o pc lv [.int x] := fun H locs ls hW hS hl => W.zret C.1.1 C.1.2.1 hr (by rw [e1]; exact bI_nar b) (fun t ht hwm => ⟨⟨x, (), rfl, e1, by show CW _ _ _ _ _; rw [ht]; exact e2 H hW⟩, hS.F ht⟩) hS.2.2 hd hk
theorem G.lret (C : gCx p s m c cc nL own Ts args E (gA E) R 0 0) (hk : meth.locks = false) {pc : Nat} {lv : List (Option Value)} {x r : Int64} (hr : meth.sig.returnType = some .long) (hd : decode cc pc = .ok (.lreturn, 1)) (e1 : x = r) (e2 : ∀ H, CW E σ π o H → CW E σ' π' o' H) : G p l e R s m args below meth c nL 0 0 (gA E) (gQL below args s r E σ' π' o') E σ π o pc lv [.long x] := fun H locs ls hW hS hl => W.lret C.1.1 C.1.2.1 hr (fun t ht hwm => ⟨⟨x, (), rfl, e1, by show CW _ _ _ _ _; rw [ht]; exact e2 H hW⟩, hS.F ht⟩) hS.2.2 hd hk
theorem G.dret (C : gCx p s m c cc nL own Ts args E (gA E) R 0 0) (hk : meth.locks = false) {pc : Nat} {lv : List (Option Value)} {x r : UInt64} (hr : meth.sig.returnType = some .double) (hd : decode cc pc = .ok (.dreturn, 1)) (e1 : x = r) (e2 : ∀ H, CW E σ π o H → CW E σ' π' o' H) : G p l e R s m args below meth c nL 0 0 (gA E) (gQD below args s r E σ' π' o') E σ π o pc lv [.double x] := fun H locs ls hW hS hl => W.dret C.1.1 C.1.2.1 hr (fun t ht hwm => ⟨⟨x, (), rfl, e1, by show CW _ _ _ _ _; rw [ht]; exact e2 H hW⟩, hS.F ht⟩) hS.2.2 hd hk
theorem G.vret (C : gCx p s m c cc nL own Ts args E (gA E) R 0 0) (hk : meth.locks = false) {pc : Nat} {lv : List (Option Value)} (hr : meth.sig.returnType = none) (hd : decode cc pc = .ok (.return_, 1)) (e2 : ∀ H, CW E σ π o H → CW E σ' π' o' H) : G p l e R s m args below meth c nL 0 0 (gA E) (gQV below args s E σ' π' o') E σ π o pc lv [] := fun H locs ls hW hS hl => W.vret C.1.1 C.1.2.1 hr (fun t ht hwm => ⟨⟨(), rfl, trivial, by show CW _ _ _ _ _; rw [ht]; exact e2 H hW⟩, hS.F ht⟩) hS.2.2 hd hk
theorem G.getf (C : gCx p s m c cc nL own Ts args E A R cl sl) {pc : Nat} {lv : List (Option Value)} {st : List Value} {i j ci index : Nat} {ref Cn : String} {T : u_T} {N : Nat} {fs : List Value} {v : Value} (he : gC E σ π o i j = .inr (ci, fs)) (hv : gV i j) (hin : ∀ w ∈ u_ws Cn T N, w ∈ Ts) (hc : vwCl[ci]? = some (Cn, T, N)) (k : Nat) (hk : k < N) (hr : (T k).1 = ref) (hlink : (Cond.fieldLink own index ref (T k).2.1 (T k).2.2.1).before args s = true) (hf : fs[k]? = some v) (hd : decode cc pc = .ok (.getfield index, 3)) (kk : G p l e R s m args below meth c nL cl sl A Q E σ π o (pc + 3) lv (v :: st)) : G p l e R s m args below meth c nL cl sl A Q E σ π o pc lv (.ref (E.2.1 i j) :: st) :=
  fun H locs ls hW hS hl => va_get C.1.1 C.1.2.1 C.1.2.2.2.2 hin C.1.2.2.2.1 C.2.1.1 (hW.one hv he) 0 rfl hc k hk hlink (fun x h => by rw [← hr]; exact h) hf hd (kk H locs ls hW hS hl)
theorem G.getfN (C : gCx p s m c cc nL own Ts args E A R cl sl) {pc : Nat} {lv : List (Option Value)} {st : List Value} {i j ci index : Nat} {ref Cn : String} {T : u_T} {N : Nat} {fs : List Value} {v : Value} (he : gC E σ π o i j = .inr (ci, fs)) (hv : gV i j) (hin : ∀ w ∈ u_ws Cn T N, w ∈ Ts) (hc : vwCl[ci]? = some (Cn, T, N)) (k : Nat) (hk : k < N) (hr : (T k).1 = ref) (hlink : (Cond.fieldLinkNest own index ref (T k).2.1 (T k).2.2.1 RX3) ∈ gNst) (hf : fs[k]? = some v) (hd : decode cc pc = .ok (.getfield index, 3)) (kk : G p l e R s m args below meth c nL cl sl A Q E σ π o (pc + 3) lv (v :: st)) : G p l e R s m args below meth c nL cl sl A Q E σ π o pc lv (.ref (E.2.1 i j) :: st) :=
  fun H locs ls hW hS hl => va_getN C.1.1 C.1.2.1 C.1.2.2.2.2 hin C.1.2.2.2.1 C.2.1.1 (hW.one hv he) 0 rfl hc k hk ((C.2.1.2.1 _ hlink).use rfl) (fun x h => by rw [← hr]; exact h) hf hd (kk H locs ls hW hS hl)
theorem G.getC (C : gCx p s m c cc nL own Ts args E A R cl sl) {pc : Nat} {lv : List (Option Value)} {st : List Value} {index : Nat} {v : Value} {i : Nat} (hi : i < 9) {d : Nat → Nat → Int32} (hin : ∀ w ∈ u_ws RX0 TX0 10, w ∈ Ts) (k : Nat) (hk : k < 10) (hr : (TX0 k).1 = RX0) (hlink : (Cond.fieldLink own index RX0 (TX0 k).2.1 (TX0 k).2.2.1).before args s = true) (hf : (gFc E d i)[k]? = some v) (hd : decode cc pc = .ok (.getfield index, 3)) (kk : G p l e R s m args below meth c nL cl sl A Q E (gU σ i d) π o (pc + 3) lv (v :: st)) : G p l e R s m args below meth c nL cl sl A Q E (gU σ i d) π o pc lv (.ref (E.2.1 i 0) :: st) :=
  G.getf C (by rw [gC_co hi, gU_at]) (gV_c hi (by omega)) hin rfl k hk hr hlink hf hd kk
theorem G.getCs (C : gCx p s m c cc nL own Ts args E A R cl sl) {pc : Nat} {lv : List (Option Value)} {st : List Value} {index : Nat} {v : Value} {i : Nat} (hi : i < 9) (hin : ∀ w ∈ u_ws RX0 TX0 10, w ∈ Ts) (k : Nat) (hk : k < 10) (hr : (TX0 k).1 = RX0) (hlink : (Cond.fieldLink own index RX0 (TX0 k).2.1 (TX0 k).2.2.1).before args s = true) (hf : (gFc E (σ i) i)[k]? = some v) (hd : decode cc pc = .ok (.getfield index, 3)) (kk : G p l e R s m args below meth c nL cl sl A Q E σ π o (pc + 3) lv (v :: st)) : G p l e R s m args below meth c nL cl sl A Q E σ π o pc lv (.ref (E.2.1 i 0) :: st) :=
  G.getf C (gC_co hi) (gV_c hi (by omega)) hin rfl k hk hr hlink hf hd kk
theorem G.getW (C : gCx p s m c cc nL own Ts args E A R cl sl) {pc : Nat} {lv : List (Option Value)} {st : List Value} {index : Nat} {v : Value} {i : Nat} (hi : i < 9) {d : Nat → Nat → Int32} (hin : ∀ w ∈ u_ws RX2 TX2 3, w ∈ Ts) (k : Nat) (hk : k < 3) (hr : (TX2 k).1 = RX2) (hlink : (Cond.fieldLink own index RX2 (TX2 k).2.1 (TX2 k).2.2.1).before args s = true) (hf : (gFw E d i)[k]? = some v) (hd : decode cc pc = .ok (.getfield index, 3)) (kk : G p l e R s m args below meth c nL cl sl A Q E (gU σ i d) π o (pc + 3) lv (v :: st)) : G p l e R s m args below meth c nL cl sl A Q E (gU σ i d) π o pc lv (.ref (E.2.1 i 17) :: st) :=
  G.getf C (by rw [gC_wa hi, gU_at]) (gV_c hi (by omega)) hin rfl k hk hr hlink hf hd kk
theorem G.getWs (C : gCx p s m c cc nL own Ts args E A R cl sl) {pc : Nat} {lv : List (Option Value)} {st : List Value} {index : Nat} {v : Value} {i : Nat} (hi : i < 9) (hin : ∀ w ∈ u_ws RX2 TX2 3, w ∈ Ts) (k : Nat) (hk : k < 3) (hr : (TX2 k).1 = RX2) (hlink : (Cond.fieldLink own index RX2 (TX2 k).2.1 (TX2 k).2.2.1).before args s = true) (hf : (gFw E (σ i) i)[k]? = some v) (hd : decode cc pc = .ok (.getfield index, 3)) (kk : G p l e R s m args below meth c nL cl sl A Q E σ π o (pc + 3) lv (v :: st)) : G p l e R s m args below meth c nL cl sl A Q E σ π o pc lv (.ref (E.2.1 i 17) :: st) :=
  G.getf C (gC_wa hi) (gV_c hi (by omega)) hin rfl k hk hr hlink hf hd kk
theorem G.getR (C : gCx p s m c cc nL own Ts args E A R cl sl) {pc : Nat} {lv : List (Option Value)} {st : List Value} {index : Nat} {v : Value} {d : Nat → Nat → Int32} (hin : ∀ w ∈ u_ws RX1 TX1 4, w ∈ Ts) (k : Nat) (hk : k < 4) (hr : (TX1 k).1 = RX1) (hlink : (Cond.fieldLink own index RX1 (TX1 k).2.1 (TX1 k).2.2.1).before args s = true) (hf : (gFr d)[k]? = some v) (hd : decode cc pc = .ok (.getfield index, 3)) (kk : G p l e R s m args below meth c nL cl sl A Q E (gU σ 9 d) π o (pc + 3) lv (v :: st)) : G p l e R s m args below meth c nL cl sl A Q E (gU σ 9 d) π o pc lv (.ref (E.2.1 9 3) :: st) :=
  G.getf C (by rw [gC_re, gU_at]) (gV_m (by omega)) hin rfl k hk hr hlink hf hd kk
theorem G.getRs (C : gCx p s m c cc nL own Ts args E A R cl sl) {pc : Nat} {lv : List (Option Value)} {st : List Value} {index : Nat} {v : Value}  (hin : ∀ w ∈ u_ws RX1 TX1 4, w ∈ Ts) (k : Nat) (hk : k < 4) (hr : (TX1 k).1 = RX1) (hlink : (Cond.fieldLink own index RX1 (TX1 k).2.1 (TX1 k).2.2.1).before args s = true) (hf : (gFr (σ 9))[k]? = some v) (hd : decode cc pc = .ok (.getfield index, 3)) (kk : G p l e R s m args below meth c nL cl sl A Q E σ π o (pc + 3) lv (v :: st)) : G p l e R s m args below meth c nL cl sl A Q E σ π o pc lv (.ref (E.2.1 9 3) :: st) :=
  G.getf C gC_re (gV_m (by omega)) hin rfl k hk hr hlink hf hd kk
theorem G.getCN (C : gCx p s m c cc nL own Ts args E A R cl sl) {pc : Nat} {lv : List (Option Value)} {st : List Value} {index : Nat} {v : Value} {i : Nat} (hi : i < 9) {d : Nat → Nat → Int32} (hin : ∀ w ∈ u_ws RX0 TX0 10, w ∈ Ts) (k : Nat) (hk : k < 10) (hr : (TX0 k).1 = RX0) (hlink : (Cond.fieldLinkNest own index RX0 (TX0 k).2.1 (TX0 k).2.2.1 RX3) ∈ gNst) (hf : (gFc E d i)[k]? = some v) (hd : decode cc pc = .ok (.getfield index, 3)) (kk : G p l e R s m args below meth c nL cl sl A Q E (gU σ i d) π o (pc + 3) lv (v :: st)) : G p l e R s m args below meth c nL cl sl A Q E (gU σ i d) π o pc lv (.ref (E.2.1 i 0) :: st) :=
  G.getfN C (by rw [gC_co hi, gU_at]) (gV_c hi (by omega)) hin rfl k hk hr hlink hf hd kk
theorem G.getCsN (C : gCx p s m c cc nL own Ts args E A R cl sl) {pc : Nat} {lv : List (Option Value)} {st : List Value} {index : Nat} {v : Value} {i : Nat} (hi : i < 9) (hin : ∀ w ∈ u_ws RX0 TX0 10, w ∈ Ts) (k : Nat) (hk : k < 10) (hr : (TX0 k).1 = RX0) (hlink : (Cond.fieldLinkNest own index RX0 (TX0 k).2.1 (TX0 k).2.2.1 RX3) ∈ gNst) (hf : (gFc E (σ i) i)[k]? = some v) (hd : decode cc pc = .ok (.getfield index, 3)) (kk : G p l e R s m args below meth c nL cl sl A Q E σ π o (pc + 3) lv (v :: st)) : G p l e R s m args below meth c nL cl sl A Q E σ π o pc lv (.ref (E.2.1 i 0) :: st) :=
  G.getfN C (gC_co hi) (gV_c hi (by omega)) hin rfl k hk hr hlink hf hd kk
theorem G.getWN (C : gCx p s m c cc nL own Ts args E A R cl sl) {pc : Nat} {lv : List (Option Value)} {st : List Value} {index : Nat} {v : Value} {i : Nat} (hi : i < 9) {d : Nat → Nat → Int32} (hin : ∀ w ∈ u_ws RX2 TX2 3, w ∈ Ts) (k : Nat) (hk : k < 3) (hr : (TX2 k).1 = RX2) (hlink : (Cond.fieldLinkNest own index RX2 (TX2 k).2.1 (TX2 k).2.2.1 RX3) ∈ gNst) (hf : (gFw E d i)[k]? = some v) (hd : decode cc pc = .ok (.getfield index, 3)) (kk : G p l e R s m args below meth c nL cl sl A Q E (gU σ i d) π o (pc + 3) lv (v :: st)) : G p l e R s m args below meth c nL cl sl A Q E (gU σ i d) π o pc lv (.ref (E.2.1 i 17) :: st) :=
  G.getfN C (by rw [gC_wa hi, gU_at]) (gV_c hi (by omega)) hin rfl k hk hr hlink hf hd kk
theorem G.getWsN (C : gCx p s m c cc nL own Ts args E A R cl sl) {pc : Nat} {lv : List (Option Value)} {st : List Value} {index : Nat} {v : Value} {i : Nat} (hi : i < 9) (hin : ∀ w ∈ u_ws RX2 TX2 3, w ∈ Ts) (k : Nat) (hk : k < 3) (hr : (TX2 k).1 = RX2) (hlink : (Cond.fieldLinkNest own index RX2 (TX2 k).2.1 (TX2 k).2.2.1 RX3) ∈ gNst) (hf : (gFw E (σ i) i)[k]? = some v) (hd : decode cc pc = .ok (.getfield index, 3)) (kk : G p l e R s m args below meth c nL cl sl A Q E σ π o (pc + 3) lv (v :: st)) : G p l e R s m args below meth c nL cl sl A Q E σ π o pc lv (.ref (E.2.1 i 17) :: st) :=
  G.getfN C (gC_wa hi) (gV_c hi (by omega)) hin rfl k hk hr hlink hf hd kk
theorem G.getRN (C : gCx p s m c cc nL own Ts args E A R cl sl) {pc : Nat} {lv : List (Option Value)} {st : List Value} {index : Nat} {v : Value} {d : Nat → Nat → Int32} (hin : ∀ w ∈ u_ws RX1 TX1 4, w ∈ Ts) (k : Nat) (hk : k < 4) (hr : (TX1 k).1 = RX1) (hlink : (Cond.fieldLinkNest own index RX1 (TX1 k).2.1 (TX1 k).2.2.1 RX3) ∈ gNst) (hf : (gFr d)[k]? = some v) (hd : decode cc pc = .ok (.getfield index, 3)) (kk : G p l e R s m args below meth c nL cl sl A Q E (gU σ 9 d) π o (pc + 3) lv (v :: st)) : G p l e R s m args below meth c nL cl sl A Q E (gU σ 9 d) π o pc lv (.ref (E.2.1 9 3) :: st) :=
  G.getfN C (by rw [gC_re, gU_at]) (gV_m (by omega)) hin rfl k hk hr hlink hf hd kk
theorem G.getRsN (C : gCx p s m c cc nL own Ts args E A R cl sl) {pc : Nat} {lv : List (Option Value)} {st : List Value} {index : Nat} {v : Value}  (hin : ∀ w ∈ u_ws RX1 TX1 4, w ∈ Ts) (k : Nat) (hk : k < 4) (hr : (TX1 k).1 = RX1) (hlink : (Cond.fieldLinkNest own index RX1 (TX1 k).2.1 (TX1 k).2.2.1 RX3) ∈ gNst) (hf : (gFr (σ 9))[k]? = some v) (hd : decode cc pc = .ok (.getfield index, 3)) (kk : G p l e R s m args below meth c nL cl sl A Q E σ π o (pc + 3) lv (v :: st)) : G p l e R s m args below meth c nL cl sl A Q E σ π o pc lv (.ref (E.2.1 9 3) :: st) :=
  G.getfN C gC_re (gV_m (by omega)) hin rfl k hk hr hlink hf hd kk
theorem G.getM (C : gCx p s m c cc nL own Ts args E A R cl sl) {pc : Nat} {lv : List (Option Value)} {st : List Value} {index : Nat} {v : Value} {d : Nat → Nat → Int32} (hin : ∀ w ∈ u_ws RX3 TX3 9, w ∈ Ts) (k : Nat) (hk : k < 9) (hr : (TX3 k).1 = RX3) (hlink : (Cond.fieldLink own index RX3 (TX3 k).2.1 (TX3 k).2.2.1).before args s = true) (hf : (gFm E d)[k]? = some v) (hd : decode cc pc = .ok (.getfield index, 3)) (kk : G p l e R s m args below meth c nL cl sl A Q E (gU σ 9 d) π o (pc + 3) lv (v :: st)) : G p l e R s m args below meth c nL cl sl A Q E (gU σ 9 d) π o pc lv (.ref (E.2.1 9 0) :: st) :=
  G.getf C (by rw [gC_ma, gU_at]) (gV_m (by omega)) hin rfl k hk hr hlink hf hd kk
theorem G.getMs (C : gCx p s m c cc nL own Ts args E A R cl sl) {pc : Nat} {lv : List (Option Value)} {st : List Value} {index : Nat} {v : Value}  (hin : ∀ w ∈ u_ws RX3 TX3 9, w ∈ Ts) (k : Nat) (hk : k < 9) (hr : (TX3 k).1 = RX3) (hlink : (Cond.fieldLink own index RX3 (TX3 k).2.1 (TX3 k).2.2.1).before args s = true) (hf : (gFm E (σ 9))[k]? = some v) (hd : decode cc pc = .ok (.getfield index, 3)) (kk : G p l e R s m args below meth c nL cl sl A Q E σ π o (pc + 3) lv (v :: st)) : G p l e R s m args below meth c nL cl sl A Q E σ π o pc lv (.ref (E.2.1 9 0) :: st) :=
  G.getf C gC_ma (gV_m (by omega)) hin rfl k hk hr hlink hf hd kk
theorem G.getD (C : gCx p s m c cc nL own Ts args E A R cl sl) {pc : Nat} {lv : List (Option Value)} {st : List Value} {index : Nat} {v : Value} {d : Nat → Nat → Int32} (hin : ∀ w ∈ u_ws RX4 TX4 12, w ∈ Ts) (k : Nat) (hk : k < 12) (hr : (TX4 k).1 = RX4) (hlink : (Cond.fieldLink own index RX4 (TX4 k).2.1 (TX4 k).2.2.1).before args s = true) (hf : (gFd E d)[k]? = some v) (hd : decode cc pc = .ok (.getfield index, 3)) (kk : G p l e R s m args below meth c nL cl sl A Q E (gU σ 10 d) π o (pc + 3) lv (v :: st)) : G p l e R s m args below meth c nL cl sl A Q E (gU σ 10 d) π o pc lv (.ref (E.2.1 10 0) :: st) :=
  G.getf C (by rw [gC_mo, gU_at]) (gV_d (by omega)) hin rfl k hk hr hlink hf hd kk
theorem G.getDs (C : gCx p s m c cc nL own Ts args E A R cl sl) {pc : Nat} {lv : List (Option Value)} {st : List Value} {index : Nat} {v : Value}  (hin : ∀ w ∈ u_ws RX4 TX4 12, w ∈ Ts) (k : Nat) (hk : k < 12) (hr : (TX4 k).1 = RX4) (hlink : (Cond.fieldLink own index RX4 (TX4 k).2.1 (TX4 k).2.2.1).before args s = true) (hf : (gFd E (σ 10))[k]? = some v) (hd : decode cc pc = .ok (.getfield index, 3)) (kk : G p l e R s m args below meth c nL cl sl A Q E σ π o (pc + 3) lv (v :: st)) : G p l e R s m args below meth c nL cl sl A Q E σ π o pc lv (.ref (E.2.1 10 0) :: st) :=
  G.getf C gC_mo (gV_d (by omega)) hin rfl k hk hr hlink hf hd kk
/-- a non-final int field (or boolean) is written: what the heap holds then -/
theorem g_put {H : Heap} {locs : List Loc} {pc : Nat} {ls : Array Slot} {rest : List Value} {index ci a : Nat} {ref Cn : String} {T : u_T} {N : Nat} {fs : List Value} {v : Value} {ty : FieldType} (C : gCx p s m c cc nL own Ts args E A R cl sl) (hin : ∀ w ∈ u_ws Cn T N, w ∈ Ts) (ty0 : Nat → FieldType) (hty : ∀ k, k < N → parseFieldDescriptor (T k).2.2.1 = some (ty0 k)) (hnm : ∀ a, a < N → ∀ b, b < N → a ≠ b → (T a).2.1 ≠ (T b).2.1) (hat : va_at E.1 vwCl (a, .inr (ci, fs)) H) (hc : vwCl[ci]? = some (Cn, T, N)) (k : Nat) (hk : k < N) (hr : (T k).1 = ref) (hlink : (Cond.fieldLink own index ref (T k).2.1 (T k).2.2.1).before args s = true ∨ ∃ host, (Cond.fieldLinkNest own index ref (T k).2.1 (T k).2.2.1 host).before args s = true) (hfin : (T k).2.2.2 = false) (hd : parseFieldDescriptor (T k).2.2.1 = some ty) (hn : narrow ty v = v) (hfit : fits ty v = true) (hl : k < fs.length)
    (hdg : decode cc pc = .ok (.putfield index, 3)) (kk : ∀ (H1 : Heap) (q : Nat), va_at E.1 vwCl (a, .inr (ci, fs.set k v)) H1 → H1.size = H.size → (∀ q, q ≠ a → H1[q]? = H[q]?) → W p l e R s m args below meth c H1 (locs ++ [⟨a, q⟩]) cl sl Q (F0 m (pc + 3) ls rest)) : W p l e R s m args below meth c H locs cl sl Q (F0 m pc ls (v :: .ref a :: rest)) := by
  have hap := va_apart (own := own) C.1.2.2.2.2 hin ty0 hty hnm C.2.1.1 hc
  obtain ⟨r, h1, cell, q1, q2, q3, q4⟩ := hat
  have hr2 : r = (Cn, T, N) := Option.some.inj (h1.symm.trans hc)
  subst hr2
  obtain ⟨hS, hfc, kC, hkC, hkind⟩ := C.2.1.1.1 ci _ hc
  obtain ⟨cf, kf, fi, f, hi, hsl⟩ := hS k hk
  have hlay := C.1.2.2.2.2 _ (hin _ (u_in_lay hk))
  unfold u_lay at hlay
  rw [if_neg (by rw [hfin]; decide)] at hlay
  have hst := (u_facts hfc hkC (u_lays C.1.2.2.2.2 hin hk) hi).1
  have h6 := u_store hfc hkC hkind hlay hi hd hn hfit
  have fin : ∀ H' : Heap, H'[a]? = some (cell.setSlot f.slot v) → H'.size = H.size → (∀ q, q ≠ a → H'[q]? = H[q]?) → W p l e R s m args below meth c H' (locs ++ [⟨a, f.slot⟩]) cl sl Q (F0 m (pc + 3) ls rest) := fun H' e1 e2 e3 => by
    rw [hsl] at e1 ⊢
    exact kk H' _ ⟨_, hc, t_OB.to (V := updV (vp_V fs) k v) ⟨_, e1, q2, q3, t_set q4 hap hk v⟩ (fun j _ => vp_updV_set hl v j)⟩ e2 e3
  rcases hlink with hlink | ⟨host, hlink⟩
  · exact W.putK C.1.1 C.1.2.1 (f := f) ⟨C.1.2.2.2.1, hlink, ⟨_, _, _, by rw [← hr]; exact hi⟩, hst⟩ (by rw [q2]; exact h6) q1 q3 (by rw [hsl]; exact k2_hasslot (q4 k hk)) rfl rfl hdg fin
  · exact va_WputK C.1.1 C.1.2.1 (f := f) C.1.2.2.2.1 hlink (by rw [← hr]; exact hi) hst (by rw [q2]; exact h6) q1 q3 (by rw [hsl]; exact k2_hasslot (q4 k hk)) rfl rfl hdg fin
theorem CW.putF {H H1 : Heap} (h : CW E σ π o H) (hI : gInj E) {i j k : Nat} {v : Int32} (hv : gV i j) {x : va_E} (he : gC E (gU σ i (cW (σ i) j k v)) π o i j = x) (hat : va_at E.1 vwCl (E.2.1 i j, x) H1) (oq : ∀ q, q ≠ E.2.1 i j → H1[q]? = H[q]?) : CW E (gU σ i (cW (σ i) j k v)) π o H1 :=
  h.chg hI hv (fun i' j' hv' hne => gC_cW hne hv') he hat oq
theorem G.putCs (C : gCx p s m c cc nL own Ts args E A R cl sl) {pc : Nat} {lv : List (Option Value)} {st : List Value} {index : Nat} {x : Int32} {ty : FieldType} {i : Nat} (hi : i < 9) (hin : ∀ w ∈ u_ws RX0 TX0 10, w ∈ Ts) (k : Nat) (hk : k < 10) (hr : (TX0 k).1 = RX0) (hlink : (Cond.fieldLink own index RX0 (TX0 k).2.1 (TX0 k).2.2.1).before args s = true) (hfin : (TX0 k).2.2.2 = false) (hty : parseFieldDescriptor (TX0 k).2.2.1 = some ty) (hn : narrow ty (.int x) = .int x) (hfit : fits ty (.int x) = true) (hfs : gFc E (cW (σ i) 0 k x) i = (gFc E (σ i) i).set k (.int x)) (hd : decode cc pc = .ok (.putfield index, 3)) (kk : G p l e R s m args below meth c nL cl sl A Q E (gU σ i (cW (σ i) 0 k x)) π o (pc + 3) lv st) : G p l e R s m args below meth c nL cl sl A Q E σ π o pc lv (.int x :: .ref (E.2.1 i 0) :: st) :=
  fun H locs ls hW hS hl => by
    have hat := hW i 0 (gV_c hi (by omega))
    rw [gC_co hi] at hat
    refine g_put C hin tyX0 tyX0_ok nmX0 hat rfl k hk hr (Or.inl hlink) hfin hty hn hfit hk hd (fun H1 q h1 h2 h3 => ?_)
    refine kk H1 _ ls (hW.putF C.2.1.2.2 (gV_c hi (by omega)) ?_ h1 h3) (hS.put h2 h3 (C.2.2.1 _ ⟨_, _, (gV_c hi (by omega)), rfl⟩)) hl
    rw [gC_co hi, gU_at, hfs]
theorem G.putC (C : gCx p s m c cc nL own Ts args E A R cl sl) {pc : Nat} {lv : List (Option Value)} {st : List Value} {index : Nat} {x : Int32} {ty : FieldType} {d : Nat → Nat → Int32} {i : Nat} (hi : i < 9) (hin : ∀ w ∈ u_ws RX0 TX0 10, w ∈ Ts) (k : Nat) (hk : k < 10) (hr : (TX0 k).1 = RX0) (hlink : (Cond.fieldLink own index RX0 (TX0 k).2.1 (TX0 k).2.2.1).before args s = true) (hfin : (TX0 k).2.2.2 = false) (hty : parseFieldDescriptor (TX0 k).2.2.1 = some ty) (hn : narrow ty (.int x) = .int x) (hfit : fits ty (.int x) = true) (hfs : gFc E (cW d 0 k x) i = (gFc E d i).set k (.int x)) (hd : decode cc pc = .ok (.putfield index, 3)) (kk : G p l e R s m args below meth c nL cl sl A Q E (gU σ i (cW d 0 k x)) π o (pc + 3) lv st) : G p l e R s m args below meth c nL cl sl A Q E (gU σ i d) π o pc lv (.int x :: .ref (E.2.1 i 0) :: st) :=
  G.putCs C hi hin k hk hr hlink hfin hty hn hfit (by rw [gU_at]; exact hfs) hd (by rw [gU_at, gU_gU]; exact kk)
theorem G.putWs (C : gCx p s m c cc nL own Ts args E A R cl sl) {pc : Nat} {lv : List (Option Value)} {st : List Value} {index : Nat} {x : Int32} {ty : FieldType} {i : Nat} (hi : i < 9) (hin : ∀ w ∈ u_ws RX2 TX2 3, w ∈ Ts) (k : Nat) (hk : k < 3) (hr : (TX2 k).1 = RX2) (hlink : (Cond.fieldLink own index RX2 (TX2 k).2.1 (TX2 k).2.2.1).before args s = true) (hfin : (TX2 k).2.2.2 = false) (hty : parseFieldDescriptor (TX2 k).2.2.1 = some ty) (hn : narrow ty (.int x) = .int x) (hfit : fits ty (.int x) = true) (hfs : gFw E (cW (σ i) 17 k x) i = (gFw E (σ i) i).set k (.int x)) (hd : decode cc pc = .ok (.putfield index, 3)) (kk : G p l e R s m args below meth c nL cl sl A Q E (gU σ i (cW (σ i) 17 k x)) π o (pc + 3) lv st) : G p l e R s m args below meth c nL cl sl A Q E σ π o pc lv (.int x :: .ref (E.2.1 i 17) :: st) :=
  fun H locs ls hW hS hl => by
    have hat := hW i 17 (gV_c hi (by omega))
    rw [gC_wa hi] at hat
    refine g_put C hin tyX2 tyX2_ok nmX2 hat rfl k hk hr (Or.inl hlink) hfin hty hn hfit hk hd (fun H1 q h1 h2 h3 => ?_)
    refine kk H1 _ ls (hW.putF C.2.1.2.2 (gV_c hi (by omega)) ?_ h1 h3) (hS.put h2 h3 (C.2.2.1 _ ⟨_, _, (gV_c hi (by omega)), rfl⟩)) hl
    rw [gC_wa hi, gU_at, hfs]
theorem G.putW (C : gCx p s m c cc nL own Ts args E A R cl sl) {pc : Nat} {lv : List (Option Value)} {st : List Value} {index : Nat} {x : Int32} {ty : FieldType} {d : Nat → Nat → Int32} {i : Nat} (hi : i < 9) (hin : ∀ w ∈ u_ws RX2 TX2 3, w ∈ Ts) (k : Nat) (hk : k < 3) (hr : (TX2 k).1 = RX2) (hlink : (Cond.fieldLink own index RX2 (TX2 k).2.1 (TX2 k).2.2.1).before args s = true) (hfin : (TX2 k).2.2.2 = false) (hty : parseFieldDescriptor (TX2 k).2.2.1 = some ty) (hn : narrow ty (.int x) = .int x) (hfit : fits ty (.int x) = true) (hfs : gFw E (cW d 17 k x) i = (gFw E d i).set k (.int x)) (hd : decode cc pc = .ok (.putfield index, 3)) (kk : G p l e R s m args below meth c nL cl sl A Q E (gU σ i (cW d 17 k x)) π o (pc + 3) lv st) : G p l e R s m args below meth c nL cl sl A Q E (gU σ i d) π o pc lv (.int x :: .ref (E.2.1 i 17) :: st) :=
  G.putWs C hi hin k hk hr hlink hfin hty hn hfit (by rw [gU_at]; exact hfs) hd (by rw [gU_at, gU_gU]; exact kk)
theorem G.putWNs (C : gCx p s m c cc nL own Ts args E A R cl sl) {pc : Nat} {lv : List (Option Value)} {st : List Value} {index : Nat} {x : Int32} {ty : FieldType} {i : Nat} (hi : i < 9) (hin : ∀ w ∈ u_ws RX2 TX2 3, w ∈ Ts) (k : Nat) (hk : k < 3) (hr : (TX2 k).1 = RX2) (hlink : (Cond.fieldLinkNest own index RX2 (TX2 k).2.1 (TX2 k).2.2.1 RX3) ∈ gNst) (hfin : (TX2 k).2.2.2 = false) (hty : parseFieldDescriptor (TX2 k).2.2.1 = some ty) (hn : narrow ty (.int x) = .int x) (hfit : fits ty (.int x) = true) (hfs : gFw E (cW (σ i) 17 k x) i = (gFw E (σ i) i).set k (.int x)) (hd : decode cc pc = .ok (.putfield index, 3)) (kk : G p l e R s m args below meth c nL cl sl A Q E (gU σ i (cW (σ i) 17 k x)) π o (pc + 3) lv st) : G p l e R s m args below meth c nL cl sl A Q E σ π o pc lv (.int x :: .ref (E.2.1 i 17) :: st) :=
  fun H locs ls hW hS hl => by
    have hat := hW i 17 (gV_c hi (by omega))
    rw [gC_wa hi] at hat
    refine g_put C hin tyX2 tyX2_ok nmX2 hat rfl k hk hr (Or.inr ⟨_, (C.2.1.2.1 _ hlink).use rfl⟩) hfin hty hn hfit hk hd (fun H1 q h1 h2 h3 => ?_)
    refine kk H1 _ ls (hW.putF C.2.1.2.2 (gV_c hi (by omega)) ?_ h1 h3) (hS.put h2 h3 (C.2.2.1 _ ⟨_, _, (gV_c hi (by omega)), rfl⟩)) hl
    rw [gC_wa hi, gU_at, hfs]
theorem G.putWN (C : gCx p s m c cc nL own Ts args E A R cl sl) {pc : Nat} {lv : List (Option Value)} {st : List Value} {index : Nat} {x : Int32} {ty : FieldType} {d : Nat → Nat → Int32} {i : Nat} (hi : i < 9) (hin : ∀ w ∈ u_ws RX2 TX2 3, w ∈ Ts) (k : Nat) (hk : k < 3) (hr : (TX2 k).1 = RX2) (hlink : (Cond.fieldLinkNest own index RX2 (TX2 k).2.1 (TX2 k).2.2.1 RX3) ∈ gNst) (hfin : (TX2 k).2.2.2 = false) (hty : parseFieldDescriptor (TX2 k).2.2.1 = some ty) (hn : narrow ty (.int x) = .int x) (hfit : fits ty (.int x) = true) (hfs : gFw E (cW d 17 k x) i = (gFw E d i).set k (.int x)) (hd : decode cc pc = .ok (.putfield index, 3)) (kk : G p l e R s m args below meth c nL cl sl A Q E (gU σ i (cW d 17 k x)) π o (pc + 3) lv st) : G p l e R s m args below meth c nL cl sl A Q E (gU σ i d) π o pc lv (.int x :: .ref (E.2.1 i 17) :: st) :=
  G.putWNs C hi hin k hk hr hlink hfin hty hn hfit (by rw [gU_at]; exact hfs) hd (by rw [gU_at, gU_gU]; exact kk)
theorem G.putRs (C : gCx p s m c cc nL own Ts args E A R cl sl) {pc : Nat} {lv : List (Option Value)} {st : List Value} {index : Nat} {x : Int32} {ty : FieldType}  (hin : ∀ w ∈ u_ws RX1 TX1 4, w ∈ Ts) (k : Nat) (hk : k < 4) (hr : (TX1 k).1 = RX1) (hlink : (Cond.fieldLink own index RX1 (TX1 k).2.1 (TX1 k).2.2.1).before args s = true) (hfin : (TX1 k).2.2.2 = false) (hty : parseFieldDescriptor (TX1 k).2.2.1 = some ty) (hn : narrow ty (.int x) = .int x) (hfit : fits ty (.int x) = true) (hfs : gFr (cW (σ 9) 3 k x)  = (gFr (σ 9) ).set k (.int x)) (hd : decode cc pc = .ok (.putfield index, 3)) (kk : G p l e R s m args below meth c nL cl sl A Q E (gU σ 9 (cW (σ 9) 3 k x)) π o (pc + 3) lv st) : G p l e R s m args below meth c nL cl sl A Q E σ π o pc lv (.int x :: .ref (E.2.1 9 3) :: st) :=
  fun H locs ls hW hS hl => by
    have hat := hW 9 3 (gV_m (by omega))
    rw [gC_re] at hat
    refine g_put C hin tyX1 tyX1_ok nmX1 hat rfl k hk hr (Or.inl hlink) hfin hty hn hfit hk hd (fun H1 q h1 h2 h3 => ?_)
    refine kk H1 _ ls (hW.putF C.2.1.2.2 (gV_m (by omega)) ?_ h1 h3) (hS.put h2 h3 (C.2.2.1 _ ⟨_, _, (gV_m (by omega)), rfl⟩)) hl
    rw [gC_re, gU_at, hfs]
theorem G.putR (C : gCx p s m c cc nL own Ts args E A R cl sl) {pc : Nat} {lv : List (Option Value)} {st : List Value} {index : Nat} {x : Int32} {ty : FieldType} {d : Nat → Nat → Int32}  (hin : ∀ w ∈ u_ws RX1 TX1 4, w ∈ Ts) (k : Nat) (hk : k < 4) (hr : (TX1 k).1 = RX1) (hlink : (Cond.fieldLink own index RX1 (TX1 k).2.1 (TX1 k).2.2.1).before args s = true) (hfin : (TX1 k).2.2.2 = false) (hty : parseFieldDescriptor (TX1 k).2.2.1 = some ty) (hn : narrow ty (.int x) = .int x) (hfit : fits ty (.int x) = true) (hfs : gFr (cW d 3 k x)  = (gFr d ).set k (.int x)) (hd : decode cc pc = .ok (.putfield index, 3)) (kk : G p l e R s m args below meth c nL cl sl A Q E (gU σ 9 (cW d 3 k x)) π o (pc + 3) lv st) : G p l e R s m args below meth c nL cl sl A Q E (gU σ 9 d) π o pc lv (.int x :: .ref (E.2.1 9 3) :: st) :=
  G.putRs C hin k hk hr hlink hfin hty hn hfit (by rw [gU_at]; exact hfs) hd (by rw [gU_at, gU_gU]; exact kk)
theorem G.putMs (C : gCx p s m c cc nL own Ts args E A R cl sl) {pc : Nat} {lv : List (Option Value)} {st : List Value} {index : Nat} {x : Int32} {ty : FieldType}  (hin : ∀ w ∈ u_ws RX3 TX3 9, w ∈ Ts) (k : Nat) (hk : k < 9) (hr : (TX3 k).1 = RX3) (hlink : (Cond.fieldLink own index RX3 (TX3 k).2.1 (TX3 k).2.2.1).before args s = true) (hfin : (TX3 k).2.2.2 = false) (hty : parseFieldDescriptor (TX3 k).2.2.1 = some ty) (hn : narrow ty (.int x) = .int x) (hfit : fits ty (.int x) = true) (hfs : gFm E (cW (σ 9) 0 k x)  = (gFm E (σ 9) ).set k (.int x)) (hd : decode cc pc = .ok (.putfield index, 3)) (kk : G p l e R s m args below meth c nL cl sl A Q E (gU σ 9 (cW (σ 9) 0 k x)) π o (pc + 3) lv st) : G p l e R s m args below meth c nL cl sl A Q E σ π o pc lv (.int x :: .ref (E.2.1 9 0) :: st) :=
  fun H locs ls hW hS hl => by
    have hat := hW 9 0 (gV_m (by omega))
    rw [gC_ma] at hat
    refine g_put C hin tyX3 tyX3_ok nmX3 hat rfl k hk hr (Or.inl hlink) hfin hty hn hfit hk hd (fun H1 q h1 h2 h3 => ?_)
    refine kk H1 _ ls (hW.putF C.2.1.2.2 (gV_m (by omega)) ?_ h1 h3) (hS.put h2 h3 (C.2.2.1 _ ⟨_, _, (gV_m (by omega)), rfl⟩)) hl
    rw [gC_ma, gU_at, hfs]
theorem G.putM (C : gCx p s m c cc nL own Ts args E A R cl sl) {pc : Nat} {lv : List (Option Value)} {st : List Value} {index : Nat} {x : Int32} {ty : FieldType} {d : Nat → Nat → Int32}  (hin : ∀ w ∈ u_ws RX3 TX3 9, w ∈ Ts) (k : Nat) (hk : k < 9) (hr : (TX3 k).1 = RX3) (hlink : (Cond.fieldLink own index RX3 (TX3 k).2.1 (TX3 k).2.2.1).before args s = true) (hfin : (TX3 k).2.2.2 = false) (hty : parseFieldDescriptor (TX3 k).2.2.1 = some ty) (hn : narrow ty (.int x) = .int x) (hfit : fits ty (.int x) = true) (hfs : gFm E (cW d 0 k x)  = (gFm E d ).set k (.int x)) (hd : decode cc pc = .ok (.putfield index, 3)) (kk : G p l e R s m args below meth c nL cl sl A Q E (gU σ 9 (cW d 0 k x)) π o (pc + 3) lv st) : G p l e R s m args below meth c nL cl sl A Q E (gU σ 9 d) π o pc lv (.int x :: .ref (E.2.1 9 0) :: st) :=
  G.putMs C hin k hk hr hlink hfin hty hn hfit (by rw [gU_at]; exact hfs) hd (by rw [gU_at, gU_gU]; exact kk)
theorem G.putDs (C : gCx p s m c cc nL own Ts args E A R cl sl) {pc : Nat} {lv : List (Option Value)} {st : List Value} {index : Nat} {x : Int32} {ty : FieldType}  (hin : ∀ w ∈ u_ws RX4 TX4 12, w ∈ Ts) (k : Nat) (hk : k < 12) (hr : (TX4 k).1 = RX4) (hlink : (Cond.fieldLink own index RX4 (TX4 k).2.1 (TX4 k).2.2.1).before args s = true) (hfin : (TX4 k).2.2.2 = false) (hty : parseFieldDescriptor (TX4 k).2.2.1 = some ty) (hn : narrow ty (.int x) = .int x) (hfit : fits ty (.int x) = true) (hfs : gFd E (cW (σ 10) 0 k x)  = (gFd E (σ 10) ).set k (.int x)) (hd : decode cc pc = .ok (.putfield index, 3)) (kk : G p l e R s m args below meth c nL cl sl A Q E (gU σ 10 (cW (σ 10) 0 k x)) π o (pc + 3) lv st) : G p l e R s m args below meth c nL cl sl A Q E σ π o pc lv (.int x :: .ref (E.2.1 10 0) :: st) :=
  fun H locs ls hW hS hl => by
    have hat := hW 10 0 (gV_d (by omega))
    rw [gC_mo] at hat
    refine g_put C hin tyX4 tyX4_ok nmX4 hat rfl k hk hr (Or.inl hlink) hfin hty hn hfit hk hd (fun H1 q h1 h2 h3 => ?_)
    refine kk H1 _ ls (hW.putF C.2.1.2.2 (gV_d (by omega)) ?_ h1 h3) (hS.put h2 h3 (C.2.2.1 _ ⟨_, _, (gV_d (by omega)), rfl⟩)) hl
    rw [gC_mo, gU_at, hfs]
theorem G.putD (C : gCx p s m c cc nL own Ts args E A R cl sl) {pc : Nat} {lv : List (Option Value)} {st : List Value} {index : Nat} {x : Int32} {ty : FieldType} {d : Nat → Nat → Int32}  (hin : ∀ w ∈ u_ws RX4 TX4 12, w ∈ Ts) (k : Nat) (hk : k < 12) (hr : (TX4 k).1 = RX4) (hlink : (Cond.fieldLink own index RX4 (TX4 k).2.1 (TX4 k).2.2.1).before args s = true) (hfin : (TX4 k).2.2.2 = false) (hty : parseFieldDescriptor (TX4 k).2.2.1 = some ty) (hn : narrow ty (.int x) = .int x) (hfit : fits ty (.int x) = true) (hfs : gFd E (cW d 0 k x)  = (gFd E d ).set k (.int x)) (hd : decode cc pc = .ok (.putfield index, 3)) (kk : G p l e R s m args below meth c nL cl sl A Q E (gU σ 10 (cW d 0 k x)) π o (pc + 3) lv st) : G p l e R s m args below meth c nL cl sl A Q E (gU σ 10 d) π o pc lv (.int x :: .ref (E.2.1 10 0) :: st) :=
  G.putDs C hin k hk hr hlink hfin hty hn hfit (by rw [gU_at]; exact hfs) hd (by rw [gU_at, gU_gU]; exact kk)
theorem g_blind {av : List Value} : FrameBlind (va_Pc av (gB E σ π o)) := fun a U g mk h => ⟨h.1, h.2.1, h.2.2.call⟩
theorem g_preV {H : Heap} {i j ci : Nat} {q : vw_C} {As : List Value} (hK : gK E s) (hW : CW E σ π o H) (ho : gO i j = some ci) (hq : vwCl[ci]? = some q) : PreV s H q.1 (E.2.1 i j) (va_Pc (.ref (E.2.1 i j) :: As) (gB E σ π o)) As := by
  obtain ⟨hv, fs, he⟩ := gC_obj (E := E) (σ := σ) (π := π) (o := o) ho
  exact ⟨g_blind, va_recv hK.1 (hW.one hv he) (q0 := 0) hq rfl, fun U hU hwm => ⟨rfl, by rw [hU]; exact hW, gK.warm hwm hK⟩⟩
theorem g_preS {H : Heap} {As : List Value} (hK : gK E s) (hW : CW E σ π o H) : PreS s H (va_Pc As (gB E σ π o)) As := ⟨g_blind, fun U hU hwm => ⟨rfl, by rw [hU]; exact hW, gK.warm hwm hK⟩⟩
theorem G.callVI0 (C : gCx p s m c cc nL own Ts args E A R cl sl) {pc : Nat} {lv : List (Option Value)} {st : List Value} {index maxL : Nat} {y : MethodName} {bytes : ByteArray} {ret : Option FieldType} {ws : List Cond} {rm : Room} {i j ci : Nat} {qc : vw_C} {r : Int32} (hM : CtI l y ws rm E (.ref (E.2.1 i j) :: []) σ π o r σ' π' o') (cw : CallW R s args own qc.1 index y bytes maxL ret ws rm 0 0 0) (ho : gO i j = some ci) (hq : vwCl[ci]? = some qc) (hro : (st.map fun v => v.category).sum ≤ 8) (hd : decode cc pc = .ok (.invokevirtual index, 3)) (k : G p l e R s m args below meth c nL cl sl A Q E σ' π' o' (pc + 3) lv (.int r :: st)) : G p l e R s m args below meth c nL cl sl A Q E σ π o pc lv (.ref (E.2.1 i j) :: st) :=
  fun H locs ls hW hS hl => va_calli (va_runV (As := []) (rest := st) C.1 hM cw (g_preV C.2.1 hW ho hq) rfl rfl hl.1 rfl (lv_room hro) hd C.2.2.2) hS (fun q _ h => C.2.2.1 q h) (fun q h => C.2.2.1 q h) (fun r0 u t H1 locs1 ht hvm hpost hB hz hk1 hS1 => by
    subst hpost
    rw [ht] at hB
    exact k H1 locs1 ls hB hS1 hl)
theorem G.callVI1 (C : gCx p s m c cc nL own Ts args E A R cl sl) {pc : Nat} {lv : List (Option Value)} {st : List Value} {index maxL : Nat} {y : MethodName} {bytes : ByteArray} {ret : Option FieldType} {ws : List Cond} {rm : Room} {i j ci : Nat} {qc : vw_C} {v1 : Value} {r : Int32} (hM : CtI l y ws rm E (.ref (E.2.1 i j) :: [v1]) σ π o r σ' π' o') (cw : CallW R s args own qc.1 index y bytes maxL ret ws rm 0 0 1) (ho : gO i j = some ci) (hq : vwCl[ci]? = some qc) (hro : (st.map fun v => v.category).sum ≤ 8) (hd : decode cc pc = .ok (.invokevirtual index, 3)) (k : G p l e R s m args below meth c nL cl sl A Q E σ' π' o' (pc + 3) lv (.int r :: st)) : G p l e R s m args below meth c nL cl sl A Q E σ π o pc lv (v1 :: .ref (E.2.1 i j) :: st) :=
  fun H locs ls hW hS hl => va_calli (va_runV (As := [v1]) (rest := st) C.1 hM cw (g_preV C.2.1 hW ho hq) rfl rfl hl.1 rfl (lv_room hro) hd C.2.2.2) hS (fun q _ h => C.2.2.1 q h) (fun q h => C.2.2.1 q h) (fun r0 u t H1 locs1 ht hvm hpost hB hz hk1 hS1 => by
    subst hpost
    rw [ht] at hB
    exact k H1 locs1 ls hB hS1 hl)
theorem G.callSI1 (C : gCx p s m c cc nL own Ts args E A R cl sl) {pc : Nat} {lv : List (Option Value)} {st : List Value} {index maxL : Nat} {y : MethodName} {bytes : ByteArray} {ret : Option FieldType} {ws : List Cond} {rm : Room} {v1 : Value} {r : Int32} (hM : CtI l y ws rm E [v1] σ π o r σ' π' o') (cw : CallB R s args own index y bytes maxL ret ws rm 0 0 1 ∧ (Cond.static y).before args s = true) (hro : (st.map fun v => v.category).sum ≤ 8) (hd : decode cc pc = .ok (.invokestatic index, 3)) (k : G p l e R s m args below meth c nL cl sl A Q E σ' π' o' (pc + 3) lv (.int r :: st)) : G p l e R s m args below meth c nL cl sl A Q E σ π o pc lv (v1 :: st) :=
  fun H locs ls hW hS hl => va_calli (va_runS (As := [v1]) (rest := st) C.1 hM cw (g_preS C.2.1 hW) rfl rfl hl.1 rfl (lv_room hro) hd C.2.2.2) hS (fun q _ h => C.2.2.1 q h) (fun q h => C.2.2.1 q h) (fun r0 u t H1 locs1 ht hvm hpost hB hz hk1 hS1 => by
    subst hpost
    rw [ht] at hB
    exact k H1 locs1 ls hB hS1 hl)
theorem G.callSNI1 (C : gCx p s m c cc nL own Ts args E A R cl sl) {pc : Nat} {lv : List (Option Value)} {st : List Value} {index maxL : Nat} {y : MethodName} {bytes : ByteArray} {ret : Option FieldType} {ws : List Cond} {rm : Room} {host : String} {v1 : Value} {r : Int32} (hM : CtI l y ws rm E [v1] σ π o r σ' π' o') (cw : va_CN R s args own index y host bytes maxL ret ws rm 0 0 1 ∧ (Cond.static y).before args s = true ∧ True) (hro : (st.map fun v => v.category).sum ≤ 8) (hd : decode cc pc = .ok (.invokestatic index, 3)) (k : G p l e R s m args below meth c nL cl sl A Q E σ' π' o' (pc + 3) lv (.int r :: st)) : G p l e R s m args below meth c nL cl sl A Q E σ π o pc lv (v1 :: st) :=
  fun H locs ls hW hS hl => va_calli (va_runSN (As := [v1]) (rest := st) C.1 hM cw (g_preS C.2.1 hW) rfl rfl hl.1 rfl (lv_room hro) hd C.2.2.2) hS (fun q _ h => C.2.2.1 q h) (fun q h => C.2.2.1 q h) (fun r0 u t H1 locs1 ht hvm hpost hB hz hk1 hS1 => by
    subst hpost
    rw [ht] at hB
    exact k H1 locs1 ls hB hS1 hl)
theorem G.callVI2 (C : gCx p s m c cc nL own Ts args E A R cl sl) {pc : Nat} {lv : List (Option Value)} {st : List Value} {index maxL : Nat} {y : MethodName} {bytes : ByteArray} {ret : Option FieldType} {ws : List Cond} {rm : Room} {i j ci : Nat} {qc : vw_C} {v1 v2 : Value} {r : Int32} (hM : CtI l y ws rm E (.ref (E.2.1 i j) :: [v1, v2]) σ π o r σ' π' o') (cw : CallW R s args own qc.1 index y bytes maxL ret ws rm 0 0 2) (ho : gO i j = some ci) (hq : vwCl[ci]? = some qc) (hro : (st.map fun v => v.category).sum ≤ 8) (hd : decode cc pc = .ok (.invokevirtual index, 3)) (k : G p l e R s m args below meth c nL cl sl A Q E σ' π' o' (pc + 3) lv (.int r :: st)) : G p l e R s m args below meth c nL cl sl A Q E σ π o pc lv (v2 :: v1 :: .ref (E.2.1 i j) :: st) :=
  fun H locs ls hW hS hl => va_calli (va_runV (As := [v1, v2]) (rest := st) C.1 hM cw (g_preV C.2.1 hW ho hq) rfl rfl hl.1 rfl (lv_room hro) hd C.2.2.2) hS (fun q _ h => C.2.2.1 q h) (fun q h => C.2.2.1 q h) (fun r0 u t H1 locs1 ht hvm hpost hB hz hk1 hS1 => by
    subst hpost
    rw [ht] at hB
    exact k H1 locs1 ls hB hS1 hl)
theorem G.callSI2 (C : gCx p s m c cc nL own Ts args E A R cl sl) {pc : Nat} {lv : List (Option Value)} {st : List Value} {index maxL : Nat} {y : MethodName} {bytes : ByteArray} {ret : Option FieldType} {ws : List Cond} {rm : Room} {v1 v2 : Value} {r : Int32} (hM : CtI l y ws rm E [v1, v2] σ π o r σ' π' o') (cw : CallB R s args own index y bytes maxL ret ws rm 0 0 2 ∧ (Cond.static y).before args s = true) (hro : (st.map fun v => v.category).sum ≤ 8) (hd : decode cc pc = .ok (.invokestatic index, 3)) (k : G p l e R s m args below meth c nL cl sl A Q E σ' π' o' (pc + 3) lv (.int r :: st)) : G p l e R s m args below meth c nL cl sl A Q E σ π o pc lv (v2 :: v1 :: st) :=
  fun H locs ls hW hS hl => va_calli (va_runS (As := [v1, v2]) (rest := st) C.1 hM cw (g_preS C.2.1 hW) rfl rfl hl.1 rfl (lv_room hro) hd C.2.2.2) hS (fun q _ h => C.2.2.1 q h) (fun q h => C.2.2.1 q h) (fun r0 u t H1 locs1 ht hvm hpost hB hz hk1 hS1 => by
    subst hpost
    rw [ht] at hB
    exact k H1 locs1 ls hB hS1 hl)
theorem G.callVI3 (C : gCx p s m c cc nL own Ts args E A R cl sl) {pc : Nat} {lv : List (Option Value)} {st : List Value} {index maxL : Nat} {y : MethodName} {bytes : ByteArray} {ret : Option FieldType} {ws : List Cond} {rm : Room} {i j ci : Nat} {qc : vw_C} {v1 v2 v3 : Value} {r : Int32} (hM : CtI l y ws rm E (.ref (E.2.1 i j) :: [v1, v2, v3]) σ π o r σ' π' o') (cw : CallW R s args own qc.1 index y bytes maxL ret ws rm 0 0 3) (ho : gO i j = some ci) (hq : vwCl[ci]? = some qc) (hro : (st.map fun v => v.category).sum ≤ 8) (hd : decode cc pc = .ok (.invokevirtual index, 3)) (k : G p l e R s m args below meth c nL cl sl A Q E σ' π' o' (pc + 3) lv (.int r :: st)) : G p l e R s m args below meth c nL cl sl A Q E σ π o pc lv (v3 :: v2 :: v1 :: .ref (E.2.1 i j) :: st) :=
  fun H locs ls hW hS hl => va_calli (va_runV (As := [v1, v2, v3]) (rest := st) C.1 hM cw (g_preV C.2.1 hW ho hq) rfl rfl hl.1 rfl (lv_room hro) hd C.2.2.2) hS (fun q _ h => C.2.2.1 q h) (fun q h => C.2.2.1 q h) (fun r0 u t H1 locs1 ht hvm hpost hB hz hk1 hS1 => by
    subst hpost
    rw [ht] at hB
    exact k H1 locs1 ls hB hS1 hl)
theorem G.callSI3 (C : gCx p s m c cc nL own Ts args E A R cl sl) {pc : Nat} {lv : List (Option Value)} {st : List Value} {index maxL : Nat} {y : MethodName} {bytes : ByteArray} {ret : Option FieldType} {ws : List Cond} {rm : Room} {v1 v2 v3 : Value} {r : Int32} (hM : CtI l y ws rm E [v1, v2, v3] σ π o r σ' π' o') (cw : CallB R s args own index y bytes maxL ret ws rm 0 0 3 ∧ (Cond.static y).before args s = true) (hro : (st.map fun v => v.category).sum ≤ 8) (hd : decode cc pc = .ok (.invokestatic index, 3)) (k : G p l e R s m args below meth c nL cl sl A Q E σ' π' o' (pc + 3) lv (.int r :: st)) : G p l e R s m args below meth c nL cl sl A Q E σ π o pc lv (v3 :: v2 :: v1 :: st) :=
  fun H locs ls hW hS hl => va_calli (va_runS (As := [v1, v2, v3]) (rest := st) C.1 hM cw (g_preS C.2.1 hW) rfl rfl hl.1 rfl (lv_room hro) hd C.2.2.2) hS (fun q _ h => C.2.2.1 q h) (fun q h => C.2.2.1 q h) (fun r0 u t H1 locs1 ht hvm hpost hB hz hk1 hS1 => by
    subst hpost
    rw [ht] at hB
    exact k H1 locs1 ls hB hS1 hl)
theorem G.callVL0 (C : gCx p s m c cc nL own Ts args E A R cl sl) {pc : Nat} {lv : List (Option Value)} {st : List Value} {index maxL : Nat} {y : MethodName} {bytes : ByteArray} {ret : Option FieldType} {ws : List Cond} {rm : Room} {i j ci : Nat} {qc : vw_C} {r : Int64} (hM : CtL l y ws rm E (.ref (E.2.1 i j) :: []) σ π o r σ' π' o') (cw : CallW R s args own qc.1 index y bytes maxL ret ws rm 0 0 0) (ho : gO i j = some ci) (hq : vwCl[ci]? = some qc) (hro : (st.map fun v => v.category).sum ≤ 8) (hd : decode cc pc = .ok (.invokevirtual index, 3)) (k : G p l e R s m args below meth c nL cl sl A Q E σ' π' o' (pc + 3) lv (.long r :: st)) : G p l e R s m args below meth c nL cl sl A Q E σ π o pc lv (.ref (E.2.1 i j) :: st) :=
  fun H locs ls hW hS hl => va_calll (va_runV (As := []) (rest := st) C.1 hM cw (g_preV C.2.1 hW ho hq) rfl rfl hl.1 rfl (lv_room hro) hd C.2.2.2) hS (fun q _ h => C.2.2.1 q h) (fun q h => C.2.2.1 q h) (fun r0 u t H1 locs1 ht hvm hpost hB hz hk1 hS1 => by
    subst hpost
    rw [ht] at hB
    exact k H1 locs1 ls hB hS1 hl)
theorem G.callVL1 (C : gCx p s m c cc nL own Ts args E A R cl sl) {pc : Nat} {lv : List (Option Value)} {st : List Value} {index maxL : Nat} {y : MethodName} {bytes : ByteArray} {ret : Option FieldType} {ws : List Cond} {rm : Room} {i j ci : Nat} {qc : vw_C} {v1 : Value} {r : Int64} (hM : CtL l y ws rm E (.ref (E.2.1 i j) :: [v1]) σ π o r σ' π' o') (cw : CallW R s args own qc.1 index y bytes maxL ret ws rm 0 0 1) (ho : gO i j = some ci) (hq : vwCl[ci]? = some qc) (hro : (st.map fun v => v.category).sum ≤ 8) (hd : decode cc pc = .ok (.invokevirtual index, 3)) (k : G p l e R s m args below meth c nL cl sl A Q E σ' π' o' (pc + 3) lv (.long r :: st)) : G p l e R s m args below meth c nL cl sl A Q E σ π o pc lv (v1 :: .ref (E.2.1 i j) :: st) :=
  fun H locs ls hW hS hl => va_calll (va_runV (As := [v1]) (rest := st) C.1 hM cw (g_preV C.2.1 hW ho hq) rfl rfl hl.1 rfl (lv_room hro) hd C.2.2.2) hS (fun q _ h => C.2.2.1 q h) (fun q h => C.2.2.1 q h) (fun r0 u t H1 locs1 ht hvm hpost hB hz hk1 hS1 => by
    subst hpost
    rw [ht] at hB
    exact k H1 locs1 ls hB hS1 hl)
theorem G.callSL1 (C : gCx p s m c cc nL own Ts args E A R cl sl) {pc : Nat} {lv : List (Option Value)} {st : List Value} {index maxL : Nat} {y : MethodName} {bytes : ByteArray} {ret : Option FieldType} {ws : List Cond} {rm : Room} {v1 : Value} {r : Int64} (hM : CtL l y ws rm E [v1] σ π o r σ' π' o') (cw : CallB R s args own index y bytes maxL ret ws rm 0 0 1 ∧ (Cond.static y).before args s = true) (hro : (st.map fun v => v.category).sum ≤ 8) (hd : decode cc pc = .ok (.invokestatic index, 3)) (k : G p l e R s m args below meth c nL cl sl A Q E σ' π' o' (pc + 3) lv (.long r :: st)) : G p l e R s m args below meth c nL cl sl A Q E σ π o pc lv (v1 :: st) :=
  fun H locs ls hW hS hl => va_calll (va_runS (As := [v1]) (rest := st) C.1 hM cw (g_preS C.2.1 hW) rfl rfl hl.1 rfl (lv_room hro) hd C.2.2.2) hS (fun q _ h => C.2.2.1 q h) (fun q h => C.2.2.1 q h) (fun r0 u t H1 locs1 ht hvm hpost hB hz hk1 hS1 => by
    subst hpost
    rw [ht] at hB
    exact k H1 locs1 ls hB hS1 hl)
theorem G.callVL2 (C : gCx p s m c cc nL own Ts args E A R cl sl) {pc : Nat} {lv : List (Option Value)} {st : List Value} {index maxL : Nat} {y : MethodName} {bytes : ByteArray} {ret : Option FieldType} {ws : List Cond} {rm : Room} {i j ci : Nat} {qc : vw_C} {v1 v2 : Value} {r : Int64} (hM : CtL l y ws rm E (.ref (E.2.1 i j) :: [v1, v2]) σ π o r σ' π' o') (cw : CallW R s args own qc.1 index y bytes maxL ret ws rm 0 0 2) (ho : gO i j = some ci) (hq : vwCl[ci]? = some qc) (hro : (st.map fun v => v.category).sum ≤ 8) (hd : decode cc pc = .ok (.invokevirtual index, 3)) (k : G p l e R s m args below meth c nL cl sl A Q E σ' π' o' (pc + 3) lv (.long r :: st)) : G p l e R s m args below meth c nL cl sl A Q E σ π o pc lv (v2 :: v1 :: .ref (E.2.1 i j) :: st) :=
  fun H locs ls hW hS hl => va_calll (va_runV (As := [v1, v2]) (rest := st) C.1 hM cw (g_preV C.2.1 hW ho hq) rfl rfl hl.1 rfl (lv_room hro) hd C.2.2.2) hS (fun q _ h => C.2.2.1 q h) (fun q h => C.2.2.1 q h) (fun r0 u t H1 locs1 ht hvm hpost hB hz hk1 hS1 => by
    subst hpost
    rw [ht] at hB
    exact k H1 locs1 ls hB hS1 hl)
theorem G.callSL2 (C : gCx p s m c cc nL own Ts args E A R cl sl) {pc : Nat} {lv : List (Option Value)} {st : List Value} {index maxL : Nat} {y : MethodName} {bytes : ByteArray} {ret : Option FieldType} {ws : List Cond} {rm : Room} {v1 v2 : Value} {r : Int64} (hM : CtL l y ws rm E [v1, v2] σ π o r σ' π' o') (cw : CallB R s args own index y bytes maxL ret ws rm 0 0 2 ∧ (Cond.static y).before args s = true) (hro : (st.map fun v => v.category).sum ≤ 8) (hd : decode cc pc = .ok (.invokestatic index, 3)) (k : G p l e R s m args below meth c nL cl sl A Q E σ' π' o' (pc + 3) lv (.long r :: st)) : G p l e R s m args below meth c nL cl sl A Q E σ π o pc lv (v2 :: v1 :: st) :=
  fun H locs ls hW hS hl => va_calll (va_runS (As := [v1, v2]) (rest := st) C.1 hM cw (g_preS C.2.1 hW) rfl rfl hl.1 rfl (lv_room hro) hd C.2.2.2) hS (fun q _ h => C.2.2.1 q h) (fun q h => C.2.2.1 q h) (fun r0 u t H1 locs1 ht hvm hpost hB hz hk1 hS1 => by
    subst hpost
    rw [ht] at hB
    exact k H1 locs1 ls hB hS1 hl)
theorem G.callVL3 (C : gCx p s m c cc nL own Ts args E A R cl sl) {pc : Nat} {lv : List (Option Value)} {st : List Value} {index maxL : Nat} {y : MethodName} {bytes : ByteArray} {ret : Option FieldType} {ws : List Cond} {rm : Room} {i j ci : Nat} {qc : vw_C} {v1 v2 v3 : Value} {r : Int64} (hM : CtL l y ws rm E (.ref (E.2.1 i j) :: [v1, v2, v3]) σ π o r σ' π' o') (cw : CallW R s args own qc.1 index y bytes maxL ret ws rm 0 0 3) (ho : gO i j = some ci) (hq : vwCl[ci]? = some qc) (hro : (st.map fun v => v.category).sum ≤ 8) (hd : decode cc pc = .ok (.invokevirtual index, 3)) (k : G p l e R s m args below meth c nL cl sl A Q E σ' π' o' (pc + 3) lv (.long r :: st)) : G p l e R s m args below meth c nL cl sl A Q E σ π o pc lv (v3 :: v2 :: v1 :: .ref (E.2.1 i j) :: st) :=
  fun H locs ls hW hS hl => va_calll (va_runV (As := [v1, v2, v3]) (rest := st) C.1 hM cw (g_preV C.2.1 hW ho hq) rfl rfl hl.1 rfl (lv_room hro) hd C.2.2.2) hS (fun q _ h => C.2.2.1 q h) (fun q h => C.2.2.1 q h) (fun r0 u t H1 locs1 ht hvm hpost hB hz hk1 hS1 => by
    subst hpost
    rw [ht] at hB
    exact k H1 locs1 ls hB hS1 hl)
theorem G.callSL3 (C : gCx p s m c cc nL own Ts args E A R cl sl) {pc : Nat} {lv : List (Option Value)} {st : List Value} {index maxL : Nat} {y : MethodName} {bytes : ByteArray} {ret : Option FieldType} {ws : List Cond} {rm : Room} {v1 v2 v3 : Value} {r : Int64} (hM : CtL l y ws rm E [v1, v2, v3] σ π o r σ' π' o') (cw : CallB R s args own index y bytes maxL ret ws rm 0 0 3 ∧ (Cond.static y).before args s = true) (hro : (st.map fun v => v.category).sum ≤ 8) (hd : decode cc pc = .ok (.invokestatic index, 3)) (k : G p l e R s m args below meth c nL cl sl A Q E σ' π' o' (pc + 3) lv (.long r :: st)) : G p l e R s m args below meth c nL cl sl A Q E σ π o pc lv (v3 :: v2 :: v1 :: st) :=
  fun H locs ls hW hS hl => va_calll (va_runS (As := [v1, v2, v3]) (rest := st) C.1 hM cw (g_preS C.2.1 hW) rfl rfl hl.1 rfl (lv_room hro) hd C.2.2.2) hS (fun q _ h => C.2.2.1 q h) (fun q h => C.2.2.1 q h) (fun r0 u t H1 locs1 ht hvm hpost hB hz hk1 hS1 => by
    subst hpost
    rw [ht] at hB
    exact k H1 locs1 ls hB hS1 hl)
theorem G.callVD0 (C : gCx p s m c cc nL own Ts args E A R cl sl) {pc : Nat} {lv : List (Option Value)} {st : List Value} {index maxL : Nat} {y : MethodName} {bytes : ByteArray} {ret : Option FieldType} {ws : List Cond} {rm : Room} {i j ci : Nat} {qc : vw_C} {r : UInt64} (hM : CtD l y ws rm E (.ref (E.2.1 i j) :: []) σ π o r σ' π' o') (cw : CallW R s args own qc.1 index y bytes maxL ret ws rm 0 0 0) (ho : gO i j = some ci) (hq : vwCl[ci]? = some qc) (hro : (st.map fun v => v.category).sum ≤ 8) (hd : decode cc pc = .ok (.invokevirtual index, 3)) (k : G p l e R s m args below meth c nL cl sl A Q E σ' π' o' (pc + 3) lv (.double r :: st)) : G p l e R s m args below meth c nL cl sl A Q E σ π o pc lv (.ref (E.2.1 i j) :: st) :=
  fun H locs ls hW hS hl => va_calld (va_runV (As := []) (rest := st) C.1 hM cw (g_preV C.2.1 hW ho hq) rfl rfl hl.1 rfl (lv_room hro) hd C.2.2.2) hS (fun q _ h => C.2.2.1 q h) (fun q h => C.2.2.1 q h) (fun r0 u t H1 locs1 ht hvm hpost hB hz hk1 hS1 => by
    subst hpost
    rw [ht] at hB
    exact k H1 locs1 ls hB hS1 hl)
theorem G.callVD1 (C : gCx p s m c cc nL own Ts args E A R cl sl) {pc : Nat} {lv : List (Option Value)} {st : List Value} {index maxL : Nat} {y : MethodName} {bytes : ByteArray} {ret : Option FieldType} {ws : List Cond} {rm : Room} {i j ci : Nat} {qc : vw_C} {v1 : Value} {r : UInt64} (hM : CtD l y ws rm E (.ref (E.2.1 i j) :: [v1]) σ π o r σ' π' o') (cw : CallW R s args own qc.1 index y bytes maxL ret ws rm 0 0 1) (ho : gO i j = some ci) (hq : vwCl[ci]? = some qc) (hro : (st.map fun v => v.category).sum ≤ 8) (hd : decode cc pc = .ok (.invokevirtual index, 3)) (k : G p l e R s m args below meth c nL cl sl A Q E σ' π' o' (pc + 3) lv (.double r :: st)) : G p l e R s m args below meth c nL cl sl A Q E σ π o pc lv (v1 :: .ref (E.2.1 i j) :: st) :=
  fun H locs ls hW hS hl => va_calld (va_runV (As := [v1]) (rest := st) C.1 hM cw (g_preV C.2.1 hW ho hq) rfl rfl hl.1 rfl (lv_room hro) hd C.2.2.2) hS (fun q _ h => C.2.2.1 q h) (fun q h => C.2.2.1 q h) (fun r0 u t H1 locs1 ht hvm hpost hB hz hk1 hS1 => by
    subst hpost
    rw [ht] at hB
    exact k H1 locs1 ls hB hS1 hl)
theorem G.callSD1 (C : gCx p s m c cc nL own Ts args E A R cl sl) {pc : Nat} {lv : List (Option Value)} {st : List Value} {index maxL : Nat} {y : MethodName} {bytes : ByteArray} {ret : Option FieldType} {ws : List Cond} {rm : Room} {v1 : Value} {r : UInt64} (hM : CtD l y ws rm E [v1] σ π o r σ' π' o') (cw : CallB R s args own index y bytes maxL ret ws rm 0 0 1 ∧ (Cond.static y).before args s = true) (hro : (st.map fun v => v.category).sum ≤ 8) (hd : decode cc pc = .ok (.invokestatic index, 3)) (k : G p l e R s m args below meth c nL cl sl A Q E σ' π' o' (pc + 3) lv (.double r :: st)) : G p l e R s m args below meth c nL cl sl A Q E σ π o pc lv (v1 :: st) :=
  fun H locs ls hW hS hl => va_calld (va_runS (As := [v1]) (rest := st) C.1 hM cw (g_preS C.2.1 hW) rfl rfl hl.1 rfl (lv_room hro) hd C.2.2.2) hS (fun q _ h => C.2.2.1 q h) (fun q h => C.2.2.1 q h) (fun r0 u t H1 locs1 ht hvm hpost hB hz hk1 hS1 => by
    subst hpost
    rw [ht] at hB
    exact k H1 locs1 ls hB hS1 hl)
theorem G.callVD2 (C : gCx p s m c cc nL own Ts args E A R cl sl) {pc : Nat} {lv : List (Option Value)} {st : List Value} {index maxL : Nat} {y : MethodName} {bytes : ByteArray} {ret : Option FieldType} {ws : List Cond} {rm : Room} {i j ci : Nat} {qc : vw_C} {v1 v2 : Value} {r : UInt64} (hM : CtD l y ws rm E (.ref (E.2.1 i j) :: [v1, v2]) σ π o r σ' π' o') (cw : CallW R s args own qc.1 index y bytes maxL ret ws rm 0 0 2) (ho : gO i j = some ci) (hq : vwCl[ci]? = some qc) (hro : (st.map fun v => v.category).sum ≤ 8) (hd : decode cc pc = .ok (.invokevirtual index, 3)) (k : G p l e R s m args below meth c nL cl sl A Q E σ' π' o' (pc + 3) lv (.double r :: st)) : G p l e R s m args below meth c nL cl sl A Q E σ π o pc lv (v2 :: v1 :: .ref (E.2.1 i j) :: st) :=
  fun H locs ls hW hS hl => va_calld (va_runV (As := [v1, v2]) (rest := st) C.1 hM cw (g_preV C.2.1 hW ho hq) rfl rfl hl.1 rfl (lv_room hro) hd C.2.2.2) hS (fun q _ h => C.2.2.1 q h) (fun q h => C.2.2.1 q h) (fun r0 u t H1 locs1 ht hvm hpost hB hz hk1 hS1 => by
    subst hpost
    rw [ht] at hB
    exact k H1 locs1 ls hB hS1 hl)
theorem G.callSD2 (C : gCx p s m c cc nL own Ts args E A R cl sl) {pc : Nat} {lv : List (Option Value)} {st : List Value} {index maxL : Nat} {y : MethodName} {bytes : ByteArray} {ret : Option FieldType} {ws : List Cond} {rm : Room} {v1 v2 : Value} {r : UInt64} (hM : CtD l y ws rm E [v1, v2] σ π o r σ' π' o') (cw : CallB R s args own index y bytes maxL ret ws rm 0 0 2 ∧ (Cond.static y).before args s = true) (hro : (st.map fun v => v.category).sum ≤ 8) (hd : decode cc pc = .ok (.invokestatic index, 3)) (k : G p l e R s m args below meth c nL cl sl A Q E σ' π' o' (pc + 3) lv (.double r :: st)) : G p l e R s m args below meth c nL cl sl A Q E σ π o pc lv (v2 :: v1 :: st) :=
  fun H locs ls hW hS hl => va_calld (va_runS (As := [v1, v2]) (rest := st) C.1 hM cw (g_preS C.2.1 hW) rfl rfl hl.1 rfl (lv_room hro) hd C.2.2.2) hS (fun q _ h => C.2.2.1 q h) (fun q h => C.2.2.1 q h) (fun r0 u t H1 locs1 ht hvm hpost hB hz hk1 hS1 => by
    subst hpost
    rw [ht] at hB
    exact k H1 locs1 ls hB hS1 hl)
theorem G.callVD3 (C : gCx p s m c cc nL own Ts args E A R cl sl) {pc : Nat} {lv : List (Option Value)} {st : List Value} {index maxL : Nat} {y : MethodName} {bytes : ByteArray} {ret : Option FieldType} {ws : List Cond} {rm : Room} {i j ci : Nat} {qc : vw_C} {v1 v2 v3 : Value} {r : UInt64} (hM : CtD l y ws rm E (.ref (E.2.1 i j) :: [v1, v2, v3]) σ π o r σ' π' o') (cw : CallW R s args own qc.1 index y bytes maxL ret ws rm 0 0 3) (ho : gO i j = some ci) (hq : vwCl[ci]? = some qc) (hro : (st.map fun v => v.category).sum ≤ 8) (hd : decode cc pc = .ok (.invokevirtual index, 3)) (k : G p l e R s m args below meth c nL cl sl A Q E σ' π' o' (pc + 3) lv (.double r :: st)) : G p l e R s m args below meth c nL cl sl A Q E σ π o pc lv (v3 :: v2 :: v1 :: .ref (E.2.1 i j) :: st) :=
  fun H locs ls hW hS hl => va_calld (va_runV (As := [v1, v2, v3]) (rest := st) C.1 hM cw (g_preV C.2.1 hW ho hq) rfl rfl hl.1 rfl (lv_room hro) hd C.2.2.2) hS (fun q _ h => C.2.2.1 q h) (fun q h => C.2.2.1 q h) (fun r0 u t H1 locs1 ht hvm hpost hB hz hk1 hS1 => by
    subst hpost
    rw [ht] at hB
    exact k H1 locs1 ls hB hS1 hl)
theorem G.callSD3 (C : gCx p s m c cc nL own Ts args E A R cl sl) {pc : Nat} {lv : List (Option Value)} {st : List Value} {index maxL : Nat} {y : MethodName} {bytes : ByteArray} {ret : Option FieldType} {ws : List Cond} {rm : Room} {v1 v2 v3 : Value} {r : UInt64} (hM : CtD l y ws rm E [v1, v2, v3] σ π o r σ' π' o') (cw : CallB R s args own index y bytes maxL ret ws rm 0 0 3 ∧ (Cond.static y).before args s = true) (hro : (st.map fun v => v.category).sum ≤ 8) (hd : decode cc pc = .ok (.invokestatic index, 3)) (k : G p l e R s m args below meth c nL cl sl A Q E σ' π' o' (pc + 3) lv (.double r :: st)) : G p l e R s m args below meth c nL cl sl A Q E σ π o pc lv (v3 :: v2 :: v1 :: st) :=
  fun H locs ls hW hS hl => va_calld (va_runS (As := [v1, v2, v3]) (rest := st) C.1 hM cw (g_preS C.2.1 hW) rfl rfl hl.1 rfl (lv_room hro) hd C.2.2.2) hS (fun q _ h => C.2.2.1 q h) (fun q h => C.2.2.1 q h) (fun r0 u t H1 locs1 ht hvm hpost hB hz hk1 hS1 => by
    subst hpost
    rw [ht] at hB
    exact k H1 locs1 ls hB hS1 hl)
theorem G.callVV0 (C : gCx p s m c cc nL own Ts args E A R cl sl) {pc : Nat} {lv : List (Option Value)} {st : List Value} {index maxL : Nat} {y : MethodName} {bytes : ByteArray} {ret : Option FieldType} {ws : List Cond} {rm : Room} {i j ci : Nat} {qc : vw_C} (hM : CtV l y ws rm E (.ref (E.2.1 i j) :: []) σ π o σ' π' o') (cw : CallW R s args own qc.1 index y bytes maxL ret ws rm 0 0 0) (ho : gO i j = some ci) (hq : vwCl[ci]? = some qc) (hro : (st.map fun v => v.category).sum ≤ 8) (hd : decode cc pc = .ok (.invokevirtual index, 3)) (k : G p l e R s m args below meth c nL cl sl A Q E σ' π' o' (pc + 3) lv st) : G p l e R s m args below meth c nL cl sl A Q E σ π o pc lv (.ref (E.2.1 i j) :: st) :=
  fun H locs ls hW hS hl => va_callv (va_runV (As := []) (rest := st) C.1 hM cw (g_preV C.2.1 hW ho hq) rfl rfl hl.1 rfl (lv_room hro) hd C.2.2.2) hS (fun q _ h => C.2.2.1 q h) (fun q h => C.2.2.1 q h) (fun u t H1 locs1 ht hvm hpost hB hz hk1 hS1 => by
    rw [ht] at hB
    exact k H1 locs1 ls hB hS1 hl)
theorem G.callVV1 (C : gCx p s m c cc nL own Ts args E A R cl sl) {pc : Nat} {lv : List (Option Value)} {st : List Value} {index maxL : Nat} {y : MethodName} {bytes : ByteArray} {ret : Option FieldType} {ws : List Cond} {rm : Room} {i j ci : Nat} {qc : vw_C} {v1 : Value} (hM : CtV l y ws rm E (.ref (E.2.1 i j) :: [v1]) σ π o σ' π' o') (cw : CallW R s args own qc.1 index y bytes maxL ret ws rm 0 0 1) (ho : gO i j = some ci) (hq : vwCl[ci]? = some qc) (hro : (st.map fun v => v.category).sum ≤ 8) (hd : decode cc pc = .ok (.invokevirtual index, 3)) (k : G p l e R s m args below meth c nL cl sl A Q E σ' π' o' (pc + 3) lv st) : G p l e R s m args below meth c nL cl sl A Q E σ π o pc lv (v1 :: .ref (E.2.1 i j) :: st) :=
  fun H locs ls hW hS hl => va_callv (va_runV (As := [v1]) (rest := st) C.1 hM cw (g_preV C.2.1 hW ho hq) rfl rfl hl.1 rfl (lv_room hro) hd C.2.2.2) hS (fun q _ h => C.2.2.1 q h) (fun q h => C.2.2.1 q h) (fun u t H1 locs1 ht hvm hpost hB hz hk1 hS1 => by
    rw [ht] at hB
    exact k H1 locs1 ls hB hS1 hl)
theorem G.callSV1 (C : gCx p s m c cc nL own Ts args E A R cl sl) {pc : Nat} {lv : List (Option Value)} {st : List Value} {index maxL : Nat} {y : MethodName} {bytes : ByteArray} {ret : Option FieldType} {ws : List Cond} {rm : Room} {v1 : Value} (hM : CtV l y ws rm E [v1] σ π o σ' π' o') (cw : CallB R s args own index y bytes maxL ret ws rm 0 0 1 ∧ (Cond.static y).before args s = true) (hro : (st.map fun v => v.category).sum ≤ 8) (hd : decode cc pc = .ok (.invokestatic index, 3)) (k : G p l e R s m args below meth c nL cl sl A Q E σ' π' o' (pc + 3) lv st) : G p l e R s m args below meth c nL cl sl A Q E σ π o pc lv (v1 :: st) :=
  fun H locs ls hW hS hl => va_callv (va_runS (As := [v1]) (rest := st) C.1 hM cw (g_preS C.2.1 hW) rfl rfl hl.1 rfl (lv_room hro) hd C.2.2.2) hS (fun q _ h => C.2.2.1 q h) (fun q h => C.2.2.1 q h) (fun u t H1 locs1 ht hvm hpost hB hz hk1 hS1 => by
    rw [ht] at hB
    exact k H1 locs1 ls hB hS1 hl)
theorem G.callVV2 (C : gCx p s m c cc nL own Ts args E A R cl sl) {pc : Nat} {lv : List (Option Value)} {st : List Value} {index maxL : Nat} {y : MethodName} {bytes : ByteArray} {ret : Option FieldType} {ws : List Cond} {rm : Room} {i j ci : Nat} {qc : vw_C} {v1 v2 : Value} (hM : CtV l y ws rm E (.ref (E.2.1 i j) :: [v1, v2]) σ π o σ' π' o') (cw : CallW R s args own qc.1 index y bytes maxL ret ws rm 0 0 2) (ho : gO i j = some ci) (hq : vwCl[ci]? = some qc) (hro : (st.map fun v => v.category).sum ≤ 8) (hd : decode cc pc = .ok (.invokevirtual index, 3)) (k : G p l e R s m args below meth c nL cl sl A Q E σ' π' o' (pc + 3) lv st) : G p l e R s m args below meth c nL cl sl A Q E σ π o pc lv (v2 :: v1 :: .ref (E.2.1 i j) :: st) :=
  fun H locs ls hW hS hl => va_callv (va_runV (As := [v1, v2]) (rest := st) C.1 hM cw (g_preV C.2.1 hW ho hq) rfl rfl hl.1 rfl (lv_room hro) hd C.2.2.2) hS (fun q _ h => C.2.2.1 q h) (fun q h => C.2.2.1 q h) (fun u t H1 locs1 ht hvm hpost hB hz hk1 hS1 => by
    rw [ht] at hB
    exact k H1 locs1 ls hB hS1 hl)
theorem G.callSV2 (C : gCx p s m c cc nL own Ts args E A R cl sl) {pc : Nat} {lv : List (Option Value)} {st : List Value} {index maxL : Nat} {y : MethodName} {bytes : ByteArray} {ret : Option FieldType} {ws : List Cond} {rm : Room} {v1 v2 : Value} (hM : CtV l y ws rm E [v1, v2] σ π o σ' π' o') (cw : CallB R s args own index y bytes maxL ret ws rm 0 0 2 ∧ (Cond.static y).before args s = true) (hro : (st.map fun v => v.category).sum ≤ 8) (hd : decode cc pc = .ok (.invokestatic index, 3)) (k : G p l e R s m args below meth c nL cl sl A Q E σ' π' o' (pc + 3) lv st) : G p l e R s m args below meth c nL cl sl A Q E σ π o pc lv (v2 :: v1 :: st) :=
  fun H locs ls hW hS hl => va_callv (va_runS (As := [v1, v2]) (rest := st) C.1 hM cw (g_preS C.2.1 hW) rfl rfl hl.1 rfl (lv_room hro) hd C.2.2.2) hS (fun q _ h => C.2.2.1 q h) (fun q h => C.2.2.1 q h) (fun u t H1 locs1 ht hvm hpost hB hz hk1 hS1 => by
    rw [ht] at hB
    exact k H1 locs1 ls hB hS1 hl)
theorem G.callVV3 (C : gCx p s m c cc nL own Ts args E A R cl sl) {pc : Nat} {lv : List (Option Value)} {st : List Value} {index maxL : Nat} {y : MethodName} {bytes : ByteArray} {ret : Option FieldType} {ws : List Cond} {rm : Room} {i j ci : Nat} {qc : vw_C} {v1 v2 v3 : Value} (hM : CtV l y ws rm E (.ref (E.2.1 i j) :: [v1, v2, v3]) σ π o σ' π' o') (cw : CallW R s args own qc.1 index y bytes maxL ret ws rm 0 0 3) (ho : gO i j = some ci) (hq : vwCl[ci]? = some qc) (hro : (st.map fun v => v.category).sum ≤ 8) (hd : decode cc pc = .ok (.invokevirtual index, 3)) (k : G p l e R s m args below meth c nL cl sl A Q E σ' π' o' (pc + 3) lv st) : G p l e R s m args below meth c nL cl sl A Q E σ π o pc lv (v3 :: v2 :: v1 :: .ref (E.2.1 i j) :: st) :=
  fun H locs ls hW hS hl => va_callv (va_runV (As := [v1, v2, v3]) (rest := st) C.1 hM cw (g_preV C.2.1 hW ho hq) rfl rfl hl.1 rfl (lv_room hro) hd C.2.2.2) hS (fun q _ h => C.2.2.1 q h) (fun q h => C.2.2.1 q h) (fun u t H1 locs1 ht hvm hpost hB hz hk1 hS1 => by
    rw [ht] at hB
    exact k H1 locs1 ls hB hS1 hl)
theorem G.callSV3 (C : gCx p s m c cc nL own Ts args E A R cl sl) {pc : Nat} {lv : List (Option Value)} {st : List Value} {index maxL : Nat} {y : MethodName} {bytes : ByteArray} {ret : Option FieldType} {ws : List Cond} {rm : Room} {v1 v2 v3 : Value} (hM : CtV l y ws rm E [v1, v2, v3] σ π o σ' π' o') (cw : CallB R s args own index y bytes maxL ret ws rm 0 0 3 ∧ (Cond.static y).before args s = true) (hro : (st.map fun v => v.category).sum ≤ 8) (hd : decode cc pc = .ok (.invokestatic index, 3)) (k : G p l e R s m args below meth c nL cl sl A Q E σ' π' o' (pc + 3) lv st) : G p l e R s m args below meth c nL cl sl A Q E σ π o pc lv (v3 :: v2 :: v1 :: st) :=
  fun H locs ls hW hS hl => va_callv (va_runS (As := [v1, v2, v3]) (rest := st) C.1 hM cw (g_preS C.2.1 hW) rfl rfl hl.1 rfl (lv_room hro) hd C.2.2.2) hS (fun q _ h => C.2.2.1 q h) (fun q h => C.2.2.1 q h) (fun u t H1 locs1 ht hvm hpost hB hz hk1 hS1 => by
    rw [ht] at hB
    exact k H1 locs1 ls hB hS1 hl)
end GL2
theorem va_Nw_isHole {E : gEn} {s : State} (h : gK E s) : va_Nw (.methodLinkNest RX0 59 yX3_isHole RX3) s := h.2.1 _ (by unfold gNst; simp)
theorem CtI.eta {l : Launch} {y : MethodName} {ws : List Cond} {rm : Room} {E : gEn} {av : List Value} {σ σ' : gSt} {π π' : Nat → Nat} {o o' : Int64} {r : Int32} {i : Nat} (h : CtI l y ws rm E av (gU σ i (σ i)) π o r σ' π' o') : CtI l y ws rm E av σ π o r σ' π' o' := by rw [gU_eta] at h; exact h
theorem CtV.eta {l : Launch} {y : MethodName} {ws : List Cond} {rm : Room} {E : gEn} {av : List Value} {σ σ' : gSt} {π π' : Nat → Nat} {o o' : Int64} {i : Nat} (h : CtV l y ws rm E av (gU σ i (σ i)) π o σ' π' o') : CtV l y ws rm E av σ π o σ' π' o' := by rw [gU_eta] at h; exact h
theorem CtI.same {l : Launch} {y : MethodName} {ws : List Cond} {rm : Room} {E : gEn} {av : List Value} {σ : gSt} {π : Nat → Nat} {o : Int64} {r : Int32} {i : Nat} (h : CtI l y ws rm E av (gU σ i (σ i)) π o r (gU σ i (σ i)) π o) : CtI l y ws rm E av σ π o r σ π o := by rw [gU_eta] at h; exact h
end
section
/-! the cote's own functions: what its methods answer and leave, in terms of its contents c (place, index) -/
def cnt (P : Nat → Bool) : Nat → Nat
  | 0 => 0
  | k + 1 => if P k = true then cnt P k + 1 else cnt P k
theorem cnt_le (P : Nat → Bool) : ∀ n, cnt P n ≤ n
  | 0 => Nat.le_refl 0
  | n + 1 => by
    have := cnt_le P n
    unfold cnt
    split <;> omega
def hHole (x : Int32) : Bool := if x < 0 then false else if 24 ≤ x then false else true
def cEx (c : Nat → Nat → Int32) (x : Int32) : Bool := if x < 0 then false else if 16 ≤ x then false else if c 2 (ix x) = -1 then false else true
def cOpen (c : Nat → Nat → Int32) (x : Int32) : Bool := if hHole x = false then false else if c 13 (ix x) = 1 then true else false
def cFree (c : Nat → Nat → Int32) (x : Int32) : Bool := if cOpen c x = false then false else if c 11 (ix x) = -1 then true else false
def cDoves (c : Nat → Nat → Int32) : Int32 := nI (cnt (fun k => cEx c (nI k)) 16)
def cAt (c : Nat → Nat → Int32) (x : Int32) : Int32 := nI (cnt (fun k => cEx c (nI k) && decide (c 4 k = x)) 16)
def cHome (c : Nat → Nat → Int32) : Int32 := nI (cnt (fun k => cEx c (nI k) && decide (c 4 k = c 2 k)) 16)
def cPairs (c : Nat → Nat → Int32) : Int32 := nI (cnt (fun k => cEx c (nI k) && decide (¬ c 5 k = -1)) 16) / 2
def cSitH (c : Nat → Nat → Int32) : Int32 := nI (cnt (fun k => decide (¬ c 11 k = -1)) 24)
def cOpens (c : Nat → Nat → Int32) : Int32 := nI (cnt (fun k => cOpen c (nI k)) 24)
def cSitD (c : Nat → Nat → Int32) : Int32 := cDoves c - cAt c 24 - cAt c (-1)
def cWhyHome (c : Nat → Nat → Int32) (x t : Int32) : Int32 := if c 4 (ix x) = -1 then (if c 0 7 ≤ t then 0 else 2) else 1
def cWhyShut (c : Nat → Nat → Int32) (x : Int32) : Int32 := if c 11 (ix x) = -1 then (if cOpen c x = false then 4 else 0) else 3
def cWhyBuy (c : Nat → Nat → Int32) (x : Int32) : Int32 := if 16 ≤ cDoves c then 5 else if c 12 (ix x) = -1 then (if cOpen c x = false then 7 else 0) else 6
def cWhyPair (c : Nat → Nat → Int32) (x y : Int32) : Int32 := if x = y then 8 else if c 5 (ix x) = -1 then (if c 5 (ix y) = -1 then 0 else 9) else 9
theorem hHole_in {x : Int32} (h : hHole x = true) : vp_in x 24 := by
  unfold hHole at h
  split at h
  · cases h
  · split at h
    · cases h
    · rename_i h1 h2
      rw [vp_in_iff]
      rw [Int32.lt_iff_toInt_lt] at h1
      rw [Int32.le_iff_toInt_le] at h2
      have e0 : (0 : Int32).toInt = 0 := by decide
      have e24 : (24 : Int32).toInt = 24 := by decide
      omega
theorem i16_in {x : Int32} (h1 : ¬ x < 0) (h2 : ¬ 16 ≤ x) : vp_in x 16 := by
  rw [vp_in_iff]
  rw [Int32.lt_iff_toInt_lt] at h1
  rw [Int32.le_iff_toInt_le] at h2
  have e0 : (0 : Int32).toInt = 0 := by decide
  have e16 : (16 : Int32).toInt = 16 := by decide
  omega
theorem cOpen_in {c : Nat → Nat → Int32} {x : Int32} (h : cOpen c x = true) : vp_in x 24 := by
  unfold cOpen at h
  split at h
  · cases h
  · rename_i h1
    exact hHole_in (by simpa using h1)
theorem cEx_in {c : Nat → Nat → Int32} {x : Int32} (h : cEx c x = true) : vp_in x 16 := by
  unfold cEx at h
  split at h
  · cases h
  · split at h
    · cases h
    · rename_i h1 h2
      exact i16_in h1 h2
set_option maxRecDepth 100000 in
set_option maxHeartbeats 4000000 in
theorem k_X3_isHole (l : Launch) {E : gEn} {σ : gSt} {π : Nat → Nat} {o : Int64} {x : Int32} : CtI l yX3_isHole wsX3_isHole ({ frames := 0, cells := 0, slots := 0, locals := 0 } : Room) E [.int x] σ π o (bI (hHole x)) σ π o := by
  refine CtI.of (cc := cX3_isHole) (own := RX3) (maxL := 1) (ret := (some .boolean)) [some (.int x)] (by decide) rfl rfl (Nat.le_of_ble_eq_true rfl) rfl ?_
  intro p e s m args below meth cd C hrt hlk
  refine G.ildn0 C dX3_isHole_0 ?_
  refine G.if_lt C 14 dX3_isHole_1 (by decide) (fun h1 => ?_) (fun h1 => ?_)
  · refine G.iconst C 0 dX3_isHole_14 (by decide) ?_
    exact G.zret C hlk hrt dX3_isHole_15 (by simp [hHole, *, bI]) (by exact fun _ h => h)
  · refine G.ildn0 C dX3_isHole_4 ?_
    refine G.bipush C 24 dX3_isHole_5 (by decide) ?_
    refine G.icmp_ge C 14 dX3_isHole_7 (by decide) (fun h7 => ?_) (fun h7 => ?_)
    · refine G.iconst C 0 dX3_isHole_14 (by decide) ?_
      exact G.zret C hlk hrt dX3_isHole_15 (by simp [hHole, *, bI]) (by exact fun _ h => h)
    · refine G.iconst C 1 dX3_isHole_10 (by decide) ?_
      refine G.goto C 15 dX3_isHole_11 (by decide) ?_
      exact G.zret C hlk hrt dX3_isHole_15 (by simp [hHole, *, bI]) (by exact fun _ h => h)
set_option maxRecDepth 100000 in
set_option maxHeartbeats 4000000 in
theorem k_X0_exists (l : Launch) {E : gEn} {σ : gSt} {π : Nat → Nat} {o : Int64} {i : Nat} (hi : i < 9) {c : Nat → Nat → Int32} {x : Int32} : CtI l yX0_exists wsX0_exists ({ frames := 0, cells := 0, slots := 0, locals := 0 } : Room) E [.ref (E.2.1 i 0), .int x] (gU σ i c) π o (bI (cEx c x)) (gU σ i c) π o := by
  refine CtI.of (cc := cX0_exists) (own := RX0) (maxL := 2) (ret := (some .boolean)) [some (.ref (E.2.1 i 0)), some (.int x)] (by decide) rfl rfl (Nat.le_of_ble_eq_true rfl) rfl ?_
  intro p e s m args below meth cd C hrt hlk
  have hinX0 : ∀ w ∈ wsX00, w ∈ wsX0_exists := by decide +kernel
  refine G.ildn1 C dX0_exists_0 ?_
  refine G.if_lt C 26 dX0_exists_1 (by decide) (fun h1 => ?_) (fun h1 => ?_)
  · refine G.iconst C 0 dX0_exists_26 (by decide) ?_
    exact G.zret C hlk hrt dX0_exists_27 (by simp [cEx, *, bI]) (by exact fun _ h => h)
  · refine G.ildn1 C dX0_exists_4 ?_
    refine G.bipush C 16 dX0_exists_5 (by decide) ?_
    refine G.icmp_ge C 26 dX0_exists_7 (by decide) (fun h7 => ?_) (fun h7 => ?_)
    · refine G.iconst C 0 dX0_exists_26 (by decide) ?_
      exact G.zret C hlk hrt dX0_exists_27 (by simp [cEx, *, bI]) (by exact fun _ h => h)
    · refine G.aldn0 C dX0_exists_10 ?_
      refine G.getC C hi hinX0 0 (by decide) rfl (C.1.2.2.2.2 (.fieldLink RX0 11 RX0 "doves" "[[I") (by decide +kernel)) rfl dX0_exists_11 ?_
      refine G.iconst C 0 dX0_exists_14 (by decide) ?_
      refine G.aaldD C hi 2 (by unfold vp_in; decide) (by decide) dX0_exists_15 ?_
      refine G.ildn1 C dX0_exists_16 ?_
      refine G.ialdU C (n := 16) (j := 2) (d0 := _) (gN_c hi rfl) (gV_c hi (by omega)) (i16_in h1 h7) rfl dX0_exists_17 ?_
      refine G.iconst C (-1) dX0_exists_18 (by decide) ?_
      refine G.icmp_eq C 26 dX0_exists_19 (by decide) (fun h19 => ?_) (fun h19 => ?_)
      · refine G.iconst C 0 dX0_exists_26 (by decide) ?_
        exact G.zret C hlk hrt dX0_exists_27 (by simp [cEx, *, bI]) (by exact fun _ h => h)
      · refine G.iconst C 1 dX0_exists_22 (by decide) ?_
        refine G.goto C 27 dX0_exists_23 (by decide) ?_
        exact G.zret C hlk hrt dX0_exists_27 (by simp [cEx, *, bI]) (by exact fun _ h => h)
set_option maxRecDepth 100000 in
set_option maxHeartbeats 4000000 in
theorem k_X0_isOpen (l : Launch) {E : gEn} {σ : gSt} {π : Nat → Nat} {o : Int64} {i : Nat} (hi : i < 9) {c : Nat → Nat → Int32} {x : Int32} : CtI l yX0_isOpen wsX0_isOpen ({ frames := 1, cells := 0, slots := 0, locals := 20 } : Room) E [.ref (E.2.1 i 0), .int x] (gU σ i c) π o (bI (cOpen c x)) (gU σ i c) π o := by
  refine CtI.of (cc := cX0_isOpen) (own := RX0) (maxL := 2) (ret := (some .boolean)) [some (.ref (E.2.1 i 0)), some (.int x)] (by decide) rfl rfl (Nat.le_of_ble_eq_true rfl) rfl ?_
  intro p e s m args below meth cd C hrt hlk
  have hinX0 : ∀ w ∈ wsX00, w ∈ wsX0_isOpen := by decide +kernel
  refine G.ildn1 C dX0_isOpen_0 ?_
  refine G.callSNI1 C (k_X3_isHole l) ⟨va_cnB 1 C.1.2.2.2.2 gX0_isOpen_X3_isHole_n59 rfl rfl rfl (va_Nw_isHole C.2.1) (C.1.2.2.2.2 (.initialized RX3) (by decide +kernel)) (by decide +kernel) ⟨Nat.le_of_ble_eq_true rfl, Nat.le_of_ble_eq_true rfl⟩, (C.1.2.2.2.2 (.static yX3_isHole) (by decide +kernel)), trivial⟩ (Nat.le_of_ble_eq_true rfl) dX0_isOpen_1 ?_
  refine G.if_eqB C 23 dX0_isOpen_4 (by decide) (fun h4 => ?_) (fun h4 => ?_)
  · refine G.iconst C 0 dX0_isOpen_23 (by decide) ?_
    exact G.zret C hlk hrt dX0_isOpen_24 (by simp [cOpen, *, bI]) (by exact fun _ h => h)
  · refine G.aldn0 C dX0_isOpen_7 ?_
    refine G.getC C hi hinX0 1 (by decide) rfl (C.1.2.2.2.2 (.fieldLink RX0 16 RX0 "holes" "[[I") (by decide +kernel)) rfl dX0_isOpen_8 ?_
    refine G.iconst C 2 dX0_isOpen_11 (by decide) ?_
    refine G.aaldH C hi 13 (by unfold vp_in; decide) (by decide) dX0_isOpen_12 ?_
    refine G.ildn1 C dX0_isOpen_13 ?_
    refine G.ialdU C (n := 24) (j := 13) (d0 := _) (gN_c hi rfl) (gV_c hi (by omega)) (hHole_in h4) rfl dX0_isOpen_14 ?_
    refine G.iconst C 1 dX0_isOpen_15 (by decide) ?_
    refine G.icmp_ne C 23 dX0_isOpen_16 (by decide) (fun h16 => ?_) (fun h16 => ?_)
    · refine G.iconst C 0 dX0_isOpen_23 (by decide) ?_
      exact G.zret C hlk hrt dX0_isOpen_24 (by simp [cOpen, *, bI]) (by exact fun _ h => h)
    · refine G.iconst C 1 dX0_isOpen_19 (by decide) ?_
      refine G.goto C 24 dX0_isOpen_20 (by decide) ?_
      exact G.zret C hlk hrt dX0_isOpen_24 (by simp [cOpen, *, bI]) (by exact fun _ h => h)
set_option maxRecDepth 100000 in
set_option maxHeartbeats 4000000 in
theorem k_X0_isFree (l : Launch) {E : gEn} {σ : gSt} {π : Nat → Nat} {o : Int64} {i : Nat} (hi : i < 9) {c : Nat → Nat → Int32} {x : Int32} : CtI l yX0_isFree wsX0_isFree ({ frames := 2, cells := 0, slots := 0, locals := 41 } : Room) E [.ref (E.2.1 i 0), .int x] (gU σ i c) π o (bI (cFree c x)) (gU σ i c) π o := by
  refine CtI.of (cc := cX0_isFree) (own := RX0) (maxL := 2) (ret := (some .boolean)) [some (.ref (E.2.1 i 0)), some (.int x)] (by decide) rfl rfl (Nat.le_of_ble_eq_true rfl) rfl ?_
  intro p e s m args below meth cd C hrt hlk
  have hinX0 : ∀ w ∈ wsX00, w ∈ wsX0_isFree := by decide +kernel
  refine G.aldn0 C dX0_isFree_0 ?_
  refine G.ildn1 C dX0_isFree_1 ?_
  refine G.callVI1 C (k_X0_isOpen l hi) (cwV 1 C.1.2.2.2.2 gX0_isFree_X0_isOpen rfl rfl rfl (by decide +kernel) ⟨Nat.le_of_ble_eq_true rfl, Nat.le_of_ble_eq_true rfl⟩) (gO_c hi) rfl (Nat.le_of_ble_eq_true rfl) dX0_isFree_2 ?_
  refine G.if_eqB C 24 dX0_isFree_5 (by decide) (fun h5 => ?_) (fun h5 => ?_)
  · refine G.iconst C 0 dX0_isFree_24 (by decide) ?_
    exact G.zret C hlk hrt dX0_isFree_25 (by simp [cFree, *, bI]) (by exact fun _ h => h)
  · refine G.aldn0 C dX0_isFree_8 ?_
    refine G.getC C hi hinX0 1 (by decide) rfl (C.1.2.2.2.2 (.fieldLink RX0 16 RX0 "holes" "[[I") (by decide +kernel)) rfl dX0_isFree_9 ?_
    refine G.iconst C 0 dX0_isFree_12 (by decide) ?_
    refine G.aaldH C hi 11 (by unfold vp_in; decide) (by decide) dX0_isFree_13 ?_
    refine G.ildn1 C dX0_isFree_14 ?_
    refine G.ialdU C (n := 24) (j := 11) (d0 := _) (gN_c hi rfl) (gV_c hi (by omega)) (cOpen_in h5) rfl dX0_isFree_15 ?_
    refine G.iconst C (-1) dX0_isFree_16 (by decide) ?_
    refine G.icmp_ne C 24 dX0_isFree_17 (by decide) (fun h17 => ?_) (fun h17 => ?_)
    · refine G.iconst C 0 dX0_isFree_24 (by decide) ?_
      exact G.zret C hlk hrt dX0_isFree_25 (by simp [cFree, *, bI]) (by exact fun _ h => h)
    · refine G.iconst C 1 dX0_isFree_20 (by decide) ?_
      refine G.goto C 25 dX0_isFree_21 (by decide) ?_
      exact G.zret C hlk hrt dX0_isFree_25 (by simp [cFree, *, bI]) (by exact fun _ h => h)
set_option maxRecDepth 100000 in
set_option maxHeartbeats 4000000 in
theorem k_X0_doveCount (l : Launch) {E : gEn} {σ : gSt} {π : Nat → Nat} {o : Int64} {i : Nat} (hi : i < 9) {c : Nat → Nat → Int32} : CtI l yX0_doveCount wsX0_doveCount ({ frames := 1, cells := 0, slots := 0, locals := 21 } : Room) E [.ref (E.2.1 i 0)] (gU σ i c) π o (cDoves c) (gU σ i c) π o := by
  refine CtI.of (cc := cX0_doveCount) (own := RX0) (maxL := 3) (ret := (some .int)) [some (.ref (E.2.1 i 0)), none, none] (by decide) rfl rfl (Nat.le_of_ble_eq_true rfl) rfl ?_
  intro p e s m args below meth cd C hrt hlk
  have hinX0 : ∀ w ∈ wsX00, w ∈ wsX0_doveCount := by decide +kernel
  refine G.iconst C 0 dX0_doveCount_0 (by decide) ?_
  refine G.istn1 C dX0_doveCount_1 (by omega) rfl ?_
  refine G.iconst C 0 dX0_doveCount_2 (by decide) ?_
  refine G.istn2 C dX0_doveCount_3 (by omega) rfl ?_
  have L4 : ∀ (n k : Nat), k + n = 16 → G p l e ({ frames := 1, cells := 0, slots := 0, locals := 21 } : Room) s m args below meth cd 3 0 0 (gA E) (gQI below args s (cDoves c) E (gU σ i c) π o) E (gU σ i c) π o 4 [some (.ref (E.2.1 i 0)), some (.int (nI (cnt (fun k => cEx c (nI k)) k))), some (.int (nI k))] [] := by
    intro n
    induction n with
    | zero =>
      intro k hk
      obtain rfl : k = 16 := by omega
      refine G.ildn2 C dX0_doveCount_4 ?_
      refine G.bipush C 16 dX0_doveCount_5 (by decide) ?_
      refine G.icmp_ge C 27 dX0_doveCount_7 (by decide) (fun _ => ?_) (fun h => absurd (nI_le (a := 16) (b := 16) (by omega) (by decide)) h)
      refine G.ildn1 C dX0_doveCount_27 ?_
      exact G.iret C hlk hrt dX0_doveCount_28 (by rfl) (by exact fun _ h => h)
    | succ n ih =>
      intro k hk
      have hk2 : k < 16 := by omega
      refine G.ildn2 C dX0_doveCount_4 ?_
      refine G.bipush C 16 dX0_doveCount_5 (by decide) ?_
      refine G.icmp_ge C 27 dX0_doveCount_7 (by decide) (fun h => absurd h (nI_ge (b := 16) hk2 (by decide))) (fun _ => ?_)
      refine G.aldn0 C dX0_doveCount_10 ?_
      refine G.ildn2 C dX0_doveCount_11 ?_
      refine G.callVI1 C (k_X0_exists l hi) (cwV 1 C.1.2.2.2.2 gX0_doveCount_X0_exists rfl rfl rfl (by decide +kernel) ⟨Nat.le_of_ble_eq_true rfl, Nat.le_of_ble_eq_true rfl⟩) (gO_c hi) rfl (Nat.le_of_ble_eq_true rfl) dX0_doveCount_12 ?_
      refine G.if_eqB C 21 dX0_doveCount_15 (by decide) (fun h15 => ?_) (fun h15 => ?_)
      · refine G.iincN2 C dX0_doveCount_21 (by omega) rfl ?_
        refine G.goto C 4 dX0_doveCount_24 (by decide) ?_
        exact G.back (ih (k + 1) (by omega) ) rfl ⟨(by first | rfl | simp [cnt, *]), (by first | rfl | simp [cnt, *]), (by first | rfl | simp [cnt, *]), trivial⟩
      · refine G.iincN1 C dX0_doveCount_18 (by omega) rfl ?_
        refine G.iincN2 C dX0_doveCount_21 (by omega) rfl ?_
        refine G.goto C 4 dX0_doveCount_24 (by decide) ?_
        exact G.back (ih (k + 1) (by omega) ) rfl ⟨(by first | rfl | simp [cnt, *]), (by first | rfl | simp [cnt, *]), (by first | rfl | simp [cnt, *]), trivial⟩
  exact G.back (L4 16 0 rfl ) rfl ⟨(by first | rfl | simp [cnt]), (by first | rfl | simp [cnt]), (by first | rfl | simp [cnt]), trivial⟩
set_option maxRecDepth 100000 in
set_option maxHeartbeats 4000000 in
theorem k_X0_placedAt (l : Launch) {E : gEn} {σ : gSt} {π : Nat → Nat} {o : Int64} {i : Nat} (hi : i < 9) {c : Nat → Nat → Int32} {x : Int32} : CtI l yX0_placedAt wsX0_placedAt ({ frames := 1, cells := 0, slots := 0, locals := 21 } : Room) E [.ref (E.2.1 i 0), .int x] (gU σ i c) π o (cAt c x) (gU σ i c) π o := by
  refine CtI.of (cc := cX0_placedAt) (own := RX0) (maxL := 4) (ret := (some .int)) [some (.ref (E.2.1 i 0)), some (.int x), none, none] (by decide) rfl rfl (Nat.le_of_ble_eq_true rfl) rfl ?_
  intro p e s m args below meth cd C hrt hlk
  have hinX0 : ∀ w ∈ wsX00, w ∈ wsX0_placedAt := by decide +kernel
  refine G.iconst C 0 dX0_placedAt_0 (by decide) ?_
  refine G.istn2 C dX0_placedAt_1 (by omega) rfl ?_
  refine G.iconst C 0 dX0_placedAt_2 (by decide) ?_
  refine G.istn3 C dX0_placedAt_3 (by omega) rfl ?_
  have L4 : ∀ (n k : Nat), k + n = 16 → G p l e ({ frames := 1, cells := 0, slots := 0, locals := 21 } : Room) s m args below meth cd 4 0 0 (gA E) (gQI below args s (cAt c x) E (gU σ i c) π o) E (gU σ i c) π o 4 [some (.ref (E.2.1 i 0)), some (.int x), some (.int (nI (cnt (fun k => cEx c (nI k) && decide (c 4 k = x)) k))), some (.int (nI k))] [] := by
    intro n
    induction n with
    | zero =>
      intro k hk
      obtain rfl : k = 16 := by omega
      refine G.ildn3 C dX0_placedAt_4 ?_
      refine G.bipush C 16 dX0_placedAt_5 (by decide) ?_
      refine G.icmp_ge C 39 dX0_placedAt_7 (by decide) (fun _ => ?_) (fun h => absurd (nI_le (a := 16) (b := 16) (by omega) (by decide)) h)
      refine G.ildn2 C dX0_placedAt_39 ?_
      exact G.iret C hlk hrt dX0_placedAt_40 (by rfl) (by exact fun _ h => h)
    | succ n ih =>
      intro k hk
      have hk2 : k < 16 := by omega
      refine G.ildn3 C dX0_placedAt_4 ?_
      refine G.bipush C 16 dX0_placedAt_5 (by decide) ?_
      refine G.icmp_ge C 39 dX0_placedAt_7 (by decide) (fun h => absurd h (nI_ge (b := 16) hk2 (by decide))) (fun _ => ?_)
      refine G.aldn0 C dX0_placedAt_10 ?_
      refine G.ildn3 C dX0_placedAt_11 ?_
      refine G.callVI1 C (k_X0_exists l hi) (cwV 1 C.1.2.2.2.2 gX0_placedAt_X0_exists rfl rfl rfl (by decide +kernel) ⟨Nat.le_of_ble_eq_true rfl, Nat.le_of_ble_eq_true rfl⟩) (gO_c hi) rfl (Nat.le_of_ble_eq_true rfl) dX0_placedAt_12 ?_
      refine G.if_eqB C 33 dX0_placedAt_15 (by decide) (fun h15 => ?_) (fun h15 => ?_)
      · refine G.iincN3 C dX0_placedAt_33 (by omega) rfl ?_
        refine G.goto C 4 dX0_placedAt_36 (by decide) ?_
        exact G.back (ih (k + 1) (by omega) ) rfl ⟨(by first | rfl | simp [cnt, *]), (by first | rfl | simp [cnt, *]), (by first | rfl | simp [cnt, *]), (by first | rfl | simp [cnt, *]), trivial⟩
      · refine G.aldn0 C dX0_placedAt_18 ?_
        refine G.getC C hi hinX0 0 (by decide) rfl (C.1.2.2.2.2 (.fieldLink RX0 11 RX0 "doves" "[[I") (by decide +kernel)) rfl dX0_placedAt_19 ?_
        refine G.iconst C 2 dX0_placedAt_22 (by decide) ?_
        refine G.aaldD C hi 4 (by unfold vp_in; decide) (by decide) dX0_placedAt_23 ?_
        refine G.ildn3 C dX0_placedAt_24 ?_
        refine G.ialdU C (n := 16) (j := 4) (d0 := k) (gN_c hi rfl) (gV_c hi (by omega)) (by first | assumption | exact vp_in_nI (by omega) (by omega) | (unfold vp_in; decide)) (ix_nI (by omega)) dX0_placedAt_25 ?_
        refine G.ildn1 C dX0_placedAt_26 ?_
        refine G.icmp_ne C 33 dX0_placedAt_27 (by decide) (fun h27 => ?_) (fun h27 => ?_)
        · refine G.iincN3 C dX0_placedAt_33 (by omega) rfl ?_
          refine G.goto C 4 dX0_placedAt_36 (by decide) ?_
          exact G.back (ih (k + 1) (by omega) ) rfl ⟨(by first | rfl | simp [cnt, *]), (by first | rfl | simp [cnt, *]), (by first | rfl | simp [cnt, *]), (by first | rfl | simp [cnt, *]), trivial⟩
        · refine G.iincN2 C dX0_placedAt_30 (by omega) rfl ?_
          refine G.iincN3 C dX0_placedAt_33 (by omega) rfl ?_
          refine G.goto C 4 dX0_placedAt_36 (by decide) ?_
          exact G.back (ih (k + 1) (by omega) ) rfl ⟨(by first | rfl | simp [cnt, *]), (by first | rfl | simp [cnt, *]), (by first | rfl | simp [cnt, *]), (by first | rfl | simp [cnt, *]), trivial⟩
  exact G.back (L4 16 0 rfl ) rfl ⟨(by first | rfl | simp [cnt]), (by first | rfl | simp [cnt]), (by first | rfl | simp [cnt]), (by first | rfl | simp [cnt]), trivial⟩
set_option maxRecDepth 100000 in
set_option maxHeartbeats 4000000 in
theorem k_X0_inOwnHoles (l : Launch) {E : gEn} {σ : gSt} {π : Nat → Nat} {o : Int64} {i : Nat} (hi : i < 9) {c : Nat → Nat → Int32} : CtI l yX0_inOwnHoles wsX0_inOwnHoles ({ frames := 1, cells := 0, slots := 0, locals := 21 } : Room) E [.ref (E.2.1 i 0)] (gU σ i c) π o (cHome c) (gU σ i c) π o := by
  refine CtI.of (cc := cX0_inOwnHoles) (own := RX0) (maxL := 3) (ret := (some .int)) [some (.ref (E.2.1 i 0)), none, none] (by decide) rfl rfl (Nat.le_of_ble_eq_true rfl) rfl ?_
  intro p e s m args below meth cd C hrt hlk
  have hinX0 : ∀ w ∈ wsX00, w ∈ wsX0_inOwnHoles := by decide +kernel
  refine G.iconst C 0 dX0_inOwnHoles_0 (by decide) ?_
  refine G.istn1 C dX0_inOwnHoles_1 (by omega) rfl ?_
  refine G.iconst C 0 dX0_inOwnHoles_2 (by decide) ?_
  refine G.istn2 C dX0_inOwnHoles_3 (by omega) rfl ?_
  have L4 : ∀ (n k : Nat), k + n = 16 → G p l e ({ frames := 1, cells := 0, slots := 0, locals := 21 } : Room) s m args below meth cd 3 0 0 (gA E) (gQI below args s (cHome c) E (gU σ i c) π o) E (gU σ i c) π o 4 [some (.ref (E.2.1 i 0)), some (.int (nI (cnt (fun k => cEx c (nI k) && decide (c 4 k = c 2 k)) k))), some (.int (nI k))] [] := by
    intro n
    induction n with
    | zero =>
      intro k hk
      obtain rfl : k = 16 := by omega
      refine G.ildn2 C dX0_inOwnHoles_4 ?_
      refine G.bipush C 16 dX0_inOwnHoles_5 (by decide) ?_
      refine G.icmp_ge C 46 dX0_inOwnHoles_7 (by decide) (fun _ => ?_) (fun h => absurd (nI_le (a := 16) (b := 16) (by omega) (by decide)) h)
      refine G.ildn1 C dX0_inOwnHoles_46 ?_
      exact G.iret C hlk hrt dX0_inOwnHoles_47 (by rfl) (by exact fun _ h => h)
    | succ n ih =>
      intro k hk
      have hk2 : k < 16 := by omega
      refine G.ildn2 C dX0_inOwnHoles_4 ?_
      refine G.bipush C 16 dX0_inOwnHoles_5 (by decide) ?_
      refine G.icmp_ge C 46 dX0_inOwnHoles_7 (by decide) (fun h => absurd h (nI_ge (b := 16) hk2 (by decide))) (fun _ => ?_)
      refine G.aldn0 C dX0_inOwnHoles_10 ?_
      refine G.ildn2 C dX0_inOwnHoles_11 ?_
      refine G.callVI1 C (k_X0_exists l hi) (cwV 1 C.1.2.2.2.2 gX0_inOwnHoles_X0_exists rfl rfl rfl (by decide +kernel) ⟨Nat.le_of_ble_eq_true rfl, Nat.le_of_ble_eq_true rfl⟩) (gO_c hi) rfl (Nat.le_of_ble_eq_true rfl) dX0_inOwnHoles_12 ?_
      refine G.if_eqB C 40 dX0_inOwnHoles_15 (by decide) (fun h15 => ?_) (fun h15 => ?_)
      · refine G.iincN2 C dX0_inOwnHoles_40 (by omega) rfl ?_
        refine G.goto C 4 dX0_inOwnHoles_43 (by decide) ?_
        exact G.back (ih (k + 1) (by omega) ) rfl ⟨(by first | rfl | simp [cnt, *]), (by first | rfl | simp [cnt, *]), (by first | rfl | simp [cnt, *]), trivial⟩
      · refine G.aldn0 C dX0_inOwnHoles_18 ?_
        refine G.getC C hi hinX0 0 (by decide) rfl (C.1.2.2.2.2 (.fieldLink RX0 11 RX0 "doves" "[[I") (by decide +kernel)) rfl dX0_inOwnHoles_19 ?_
        refine G.iconst C 2 dX0_inOwnHoles_22 (by decide) ?_
        refine G.aaldD C hi 4 (by unfold vp_in; decide) (by decide) dX0_inOwnHoles_23 ?_
        refine G.ildn2 C dX0_inOwnHoles_24 ?_
        refine G.ialdU C (n := 16) (j := 4) (d0 := k) (gN_c hi rfl) (gV_c hi (by omega)) (by first | assumption | exact vp_in_nI (by omega) (by omega) | (unfold vp_in; decide)) (ix_nI (by omega)) dX0_inOwnHoles_25 ?_
        refine G.aldn0 C dX0_inOwnHoles_26 ?_
        refine G.getC C hi hinX0 0 (by decide) rfl (C.1.2.2.2.2 (.fieldLink RX0 11 RX0 "doves" "[[I") (by decide +kernel)) rfl dX0_inOwnHoles_27 ?_
        refine G.iconst C 0 dX0_inOwnHoles_30 (by decide) ?_
        refine G.aaldD C hi 2 (by unfold vp_in; decide) (by decide) dX0_inOwnHoles_31 ?_
        refine G.ildn2 C dX0_inOwnHoles_32 ?_
        refine G.ialdU C (n := 16) (j := 2) (d0 := k) (gN_c hi rfl) (gV_c hi (by omega)) (by first | assumption | exact vp_in_nI (by omega) (by omega) | (unfold vp_in; decide)) (ix_nI (by omega)) dX0_inOwnHoles_33 ?_
        refine G.icmp_ne C 40 dX0_inOwnHoles_34 (by decide) (fun h34 => ?_) (fun h34 => ?_)
        · refine G.iincN2 C dX0_inOwnHoles_40 (by omega) rfl ?_
          refine G.goto C 4 dX0_inOwnHoles_43 (by decide) ?_
          exact G.back (ih (k + 1) (by omega) ) rfl ⟨(by first | rfl | simp [cnt, *]), (by first | rfl | simp [cnt, *]), (by first | rfl | simp [cnt, *]), trivial⟩
        · refine G.iincN1 C dX0_inOwnHoles_37 (by omega) rfl ?_
          refine G.iincN2 C dX0_inOwnHoles_40 (by omega) rfl ?_
          refine G.goto C 4 dX0_inOwnHoles_43 (by decide) ?_
          exact G.back (ih (k + 1) (by omega) ) rfl ⟨(by first | rfl | simp [cnt, *]), (by first | rfl | simp [cnt, *]), (by first | rfl | simp [cnt, *]), trivial⟩
  exact G.back (L4 16 0 rfl ) rfl ⟨(by first | rfl | simp [cnt]), (by first | rfl | simp [cnt]), (by first | rfl | simp [cnt]), trivial⟩
set_option maxRecDepth 100000 in
set_option maxHeartbeats 4000000 in
theorem k_X0_pairs (l : Launch) {E : gEn} {σ : gSt} {π : Nat → Nat} {o : Int64} {i : Nat} (hi : i < 9) {c : Nat → Nat → Int32} : CtI l yX0_pairs wsX0_pairs ({ frames := 1, cells := 0, slots := 0, locals := 21 } : Room) E [.ref (E.2.1 i 0)] (gU σ i c) π o (cPairs c) (gU σ i c) π o := by
  refine CtI.of (cc := cX0_pairs) (own := RX0) (maxL := 3) (ret := (some .int)) [some (.ref (E.2.1 i 0)), none, none] (by decide) rfl rfl (Nat.le_of_ble_eq_true rfl) rfl ?_
  intro p e s m args below meth cd C hrt hlk
  have hinX0 : ∀ w ∈ wsX00, w ∈ wsX0_pairs := by decide +kernel
  refine G.iconst C 0 dX0_pairs_0 (by decide) ?_
  refine G.istn1 C dX0_pairs_1 (by omega) rfl ?_
  refine G.iconst C 0 dX0_pairs_2 (by decide) ?_
  refine G.istn2 C dX0_pairs_3 (by omega) rfl ?_
  have L4 : ∀ (n k : Nat), k + n = 16 → G p l e ({ frames := 1, cells := 0, slots := 0, locals := 21 } : Room) s m args below meth cd 3 0 0 (gA E) (gQI below args s (cPairs c) E (gU σ i c) π o) E (gU σ i c) π o 4 [some (.ref (E.2.1 i 0)), some (.int (nI (cnt (fun k => cEx c (nI k) && decide (¬ c 5 k = -1)) k))), some (.int (nI k))] [] := by
    intro n
    induction n with
    | zero =>
      intro k hk
      obtain rfl : k = 16 := by omega
      refine G.ildn2 C dX0_pairs_4 ?_
      refine G.bipush C 16 dX0_pairs_5 (by decide) ?_
      refine G.icmp_ge C 39 dX0_pairs_7 (by decide) (fun _ => ?_) (fun h => absurd (nI_le (a := 16) (b := 16) (by omega) (by decide)) h)
      refine G.ildn1 C dX0_pairs_39 ?_
      refine G.iconst C 2 dX0_pairs_40 (by decide) ?_
      refine G.idiv C dX0_pairs_41 (by decide) ?_
      exact G.iret C hlk hrt dX0_pairs_42 (by rfl) (by exact fun _ h => h)
    | succ n ih =>
      intro k hk
      have hk2 : k < 16 := by omega
      refine G.ildn2 C dX0_pairs_4 ?_
      refine G.bipush C 16 dX0_pairs_5 (by decide) ?_
      refine G.icmp_ge C 39 dX0_pairs_7 (by decide) (fun h => absurd h (nI_ge (b := 16) hk2 (by decide))) (fun _ => ?_)
      refine G.aldn0 C dX0_pairs_10 ?_
      refine G.ildn2 C dX0_pairs_11 ?_
      refine G.callVI1 C (k_X0_exists l hi) (cwV 1 C.1.2.2.2.2 gX0_pairs_X0_exists rfl rfl rfl (by decide +kernel) ⟨Nat.le_of_ble_eq_true rfl, Nat.le_of_ble_eq_true rfl⟩) (gO_c hi) rfl (Nat.le_of_ble_eq_true rfl) dX0_pairs_12 ?_
      refine G.if_eqB C 33 dX0_pairs_15 (by decide) (fun h15 => ?_) (fun h15 => ?_)
      · refine G.iincN2 C dX0_pairs_33 (by omega) rfl ?_
        refine G.goto C 4 dX0_pairs_36 (by decide) ?_
        exact G.back (ih (k + 1) (by omega) ) rfl ⟨(by first | rfl | simp [cnt, *]), (by first | rfl | simp [cnt, *]), (by first | rfl | simp [cnt, *]), trivial⟩
      · refine G.aldn0 C dX0_pairs_18 ?_
        refine G.getC C hi hinX0 0 (by decide) rfl (C.1.2.2.2.2 (.fieldLink RX0 11 RX0 "doves" "[[I") (by decide +kernel)) rfl dX0_pairs_19 ?_
        refine G.iconst C 3 dX0_pairs_22 (by decide) ?_
        refine G.aaldD C hi 5 (by unfold vp_in; decide) (by decide) dX0_pairs_23 ?_
        refine G.ildn2 C dX0_pairs_24 ?_
        refine G.ialdU C (n := 16) (j := 5) (d0 := k) (gN_c hi rfl) (gV_c hi (by omega)) (by first | assumption | exact vp_in_nI (by omega) (by omega) | (unfold vp_in; decide)) (ix_nI (by omega)) dX0_pairs_25 ?_
        refine G.iconst C (-1) dX0_pairs_26 (by decide) ?_
        refine G.icmp_eq C 33 dX0_pairs_27 (by decide) (fun h27 => ?_) (fun h27 => ?_)
        · refine G.iincN2 C dX0_pairs_33 (by omega) rfl ?_
          refine G.goto C 4 dX0_pairs_36 (by decide) ?_
          exact G.back (ih (k + 1) (by omega) ) rfl ⟨(by first | rfl | simp [cnt, *]), (by first | rfl | simp [cnt, *]), (by first | rfl | simp [cnt, *]), trivial⟩
        · refine G.iincN1 C dX0_pairs_30 (by omega) rfl ?_
          refine G.iincN2 C dX0_pairs_33 (by omega) rfl ?_
          refine G.goto C 4 dX0_pairs_36 (by decide) ?_
          exact G.back (ih (k + 1) (by omega) ) rfl ⟨(by first | rfl | simp [cnt, *]), (by first | rfl | simp [cnt, *]), (by first | rfl | simp [cnt, *]), trivial⟩
  exact G.back (L4 16 0 rfl ) rfl ⟨(by first | rfl | simp [cnt]), (by first | rfl | simp [cnt]), (by first | rfl | simp [cnt]), trivial⟩
set_option maxRecDepth 100000 in
set_option maxHeartbeats 4000000 in
theorem k_X0_sittingByHoles (l : Launch) {E : gEn} {σ : gSt} {π : Nat → Nat} {o : Int64} {i : Nat} (hi : i < 9) {c : Nat → Nat → Int32} : CtI l yX0_sittingByHoles wsX0_sittingByHoles ({ frames := 0, cells := 0, slots := 0, locals := 0 } : Room) E [.ref (E.2.1 i 0)] (gU σ i c) π o (cSitH c) (gU σ i c) π o := by
  refine CtI.of (cc := cX0_sittingByHoles) (own := RX0) (maxL := 3) (ret := (some .int)) [some (.ref (E.2.1 i 0)), none, none] (by decide) rfl rfl (Nat.le_of_ble_eq_true rfl) rfl ?_
  intro p e s m args below meth cd C hrt hlk
  have hinX0 : ∀ w ∈ wsX00, w ∈ wsX0_sittingByHoles := by decide +kernel
  refine G.iconst C 0 dX0_sittingByHoles_0 (by decide) ?_
  refine G.istn1 C dX0_sittingByHoles_1 (by omega) rfl ?_
  refine G.iconst C 0 dX0_sittingByHoles_2 (by decide) ?_
  refine G.istn2 C dX0_sittingByHoles_3 (by omega) rfl ?_
  have L4 : ∀ (n k : Nat), k + n = 24 → G p l e ({ frames := 0, cells := 0, slots := 0, locals := 0 } : Room) s m args below meth cd 3 0 0 (gA E) (gQI below args s (cSitH c) E (gU σ i c) π o) E (gU σ i c) π o 4 [some (.ref (E.2.1 i 0)), some (.int (nI (cnt (fun k => decide (¬ c 11 k = -1)) k))), some (.int (nI k))] [] := by
    intro n
    induction n with
    | zero =>
      intro k hk
      obtain rfl : k = 24 := by omega
      refine G.ildn2 C dX0_sittingByHoles_4 ?_
      refine G.bipush C 24 dX0_sittingByHoles_5 (by decide) ?_
      refine G.icmp_ge C 31 dX0_sittingByHoles_7 (by decide) (fun _ => ?_) (fun h => absurd (nI_le (a := 24) (b := 24) (by omega) (by decide)) h)
      refine G.ildn1 C dX0_sittingByHoles_31 ?_
      exact G.iret C hlk hrt dX0_sittingByHoles_32 (by rfl) (by exact fun _ h => h)
    | succ n ih =>
      intro k hk
      have hk2 : k < 24 := by omega
      refine G.ildn2 C dX0_sittingByHoles_4 ?_
      refine G.bipush C 24 dX0_sittingByHoles_5 (by decide) ?_
      refine G.icmp_ge C 31 dX0_sittingByHoles_7 (by decide) (fun h => absurd h (nI_ge (b := 24) hk2 (by decide))) (fun _ => ?_)
      refine G.aldn0 C dX0_sittingByHoles_10 ?_
      refine G.getC C hi hinX0 1 (by decide) rfl (C.1.2.2.2.2 (.fieldLink RX0 16 RX0 "holes" "[[I") (by decide +kernel)) rfl dX0_sittingByHoles_11 ?_
      refine G.iconst C 0 dX0_sittingByHoles_14 (by decide) ?_
      refine G.aaldH C hi 11 (by unfold vp_in; decide) (by decide) dX0_sittingByHoles_15 ?_
      refine G.ildn2 C dX0_sittingByHoles_16 ?_
      refine G.ialdU C (n := 24) (j := 11) (d0 := k) (gN_c hi rfl) (gV_c hi (by omega)) (by first | assumption | exact vp_in_nI (by omega) (by omega) | (unfold vp_in; decide)) (ix_nI (by omega)) dX0_sittingByHoles_17 ?_
      refine G.iconst C (-1) dX0_sittingByHoles_18 (by decide) ?_
      refine G.icmp_eq C 25 dX0_sittingByHoles_19 (by decide) (fun h19 => ?_) (fun h19 => ?_)
      · refine G.iincN2 C dX0_sittingByHoles_25 (by omega) rfl ?_
        refine G.goto C 4 dX0_sittingByHoles_28 (by decide) ?_
        exact G.back (ih (k + 1) (by omega) ) rfl ⟨(by first | rfl | simp [cnt, *]), (by first | rfl | simp [cnt, *]), (by first | rfl | simp [cnt, *]), trivial⟩
      · refine G.iincN1 C dX0_sittingByHoles_22 (by omega) rfl ?_
        refine G.iincN2 C dX0_sittingByHoles_25 (by omega) rfl ?_
        refine G.goto C 4 dX0_sittingByHoles_28 (by decide) ?_
        exact G.back (ih (k + 1) (by omega) ) rfl ⟨(by first | rfl | simp [cnt, *]), (by first | rfl | simp [cnt, *]), (by first | rfl | simp [cnt, *]), trivial⟩
  exact G.back (L4 24 0 rfl ) rfl ⟨(by first | rfl | simp [cnt]), (by first | rfl | simp [cnt]), (by first | rfl | simp [cnt]), trivial⟩
set_option maxRecDepth 100000 in
set_option maxHeartbeats 4000000 in
theorem k_X0_openHoles (l : Launch) {E : gEn} {σ : gSt} {π : Nat → Nat} {o : Int64} {i : Nat} (hi : i < 9) {c : Nat → Nat → Int32} : CtI l yX0_openHoles wsX0_openHoles ({ frames := 2, cells := 0, slots := 0, locals := 41 } : Room) E [.ref (E.2.1 i 0)] (gU σ i c) π o (cOpens c) (gU σ i c) π o := by
  refine CtI.of (cc := cX0_openHoles) (own := RX0) (maxL := 3) (ret := (some .int)) [some (.ref (E.2.1 i 0)), none, none] (by decide) rfl rfl (Nat.le_of_ble_eq_true rfl) rfl ?_
  intro p e s m args below meth cd C hrt hlk
  have hinX0 : ∀ w ∈ wsX00, w ∈ wsX0_openHoles := by decide +kernel
  refine G.iconst C 0 dX0_openHoles_0 (by decide) ?_
  refine G.istn1 C dX0_openHoles_1 (by omega) rfl ?_
  refine G.iconst C 0 dX0_openHoles_2 (by decide) ?_
  refine G.istn2 C dX0_openHoles_3 (by omega) rfl ?_
  have L4 : ∀ (n k : Nat), k + n = 24 → G p l e ({ frames := 2, cells := 0, slots := 0, locals := 41 } : Room) s m args below meth cd 3 0 0 (gA E) (gQI below args s (cOpens c) E (gU σ i c) π o) E (gU σ i c) π o 4 [some (.ref (E.2.1 i 0)), some (.int (nI (cnt (fun k => cOpen c (nI k)) k))), some (.int (nI k))] [] := by
    intro n
    induction n with
    | zero =>
      intro k hk
      obtain rfl : k = 24 := by omega
      refine G.ildn2 C dX0_openHoles_4 ?_
      refine G.bipush C 24 dX0_openHoles_5 (by decide) ?_
      refine G.icmp_ge C 27 dX0_openHoles_7 (by decide) (fun _ => ?_) (fun h => absurd (nI_le (a := 24) (b := 24) (by omega) (by decide)) h)
      refine G.ildn1 C dX0_openHoles_27 ?_
      exact G.iret C hlk hrt dX0_openHoles_28 (by rfl) (by exact fun _ h => h)
    | succ n ih =>
      intro k hk
      have hk2 : k < 24 := by omega
      refine G.ildn2 C dX0_openHoles_4 ?_
      refine G.bipush C 24 dX0_openHoles_5 (by decide) ?_
      refine G.icmp_ge C 27 dX0_openHoles_7 (by decide) (fun h => absurd h (nI_ge (b := 24) hk2 (by decide))) (fun _ => ?_)
      refine G.aldn0 C dX0_openHoles_10 ?_
      refine G.ildn2 C dX0_openHoles_11 ?_
      refine G.callVI1 C (k_X0_isOpen l hi) (cwV 1 C.1.2.2.2.2 gX0_openHoles_X0_isOpen rfl rfl rfl (by decide +kernel) ⟨Nat.le_of_ble_eq_true rfl, Nat.le_of_ble_eq_true rfl⟩) (gO_c hi) rfl (Nat.le_of_ble_eq_true rfl) dX0_openHoles_12 ?_
      refine G.if_eqB C 21 dX0_openHoles_15 (by decide) (fun h15 => ?_) (fun h15 => ?_)
      · refine G.iincN2 C dX0_openHoles_21 (by omega) rfl ?_
        refine G.goto C 4 dX0_openHoles_24 (by decide) ?_
        exact G.back (ih (k + 1) (by omega) ) rfl ⟨(by first | rfl | simp [cnt, *]), (by first | rfl | simp [cnt, *]), (by first | rfl | simp [cnt, *]), trivial⟩
      · refine G.iincN1 C dX0_openHoles_18 (by omega) rfl ?_
        refine G.iincN2 C dX0_openHoles_21 (by omega) rfl ?_
        refine G.goto C 4 dX0_openHoles_24 (by decide) ?_
        exact G.back (ih (k + 1) (by omega) ) rfl ⟨(by first | rfl | simp [cnt, *]), (by first | rfl | simp [cnt, *]), (by first | rfl | simp [cnt, *]), trivial⟩
  exact G.back (L4 24 0 rfl ) rfl ⟨(by first | rfl | simp [cnt]), (by first | rfl | simp [cnt]), (by first | rfl | simp [cnt]), trivial⟩
set_option maxRecDepth 100000 in
set_option maxHeartbeats 4000000 in
theorem k_X0_sittingByDoves (l : Launch) {E : gEn} {σ : gSt} {π : Nat → Nat} {o : Int64} {i : Nat} (hi : i < 9) {c : Nat → Nat → Int32} : CtI l yX0_sittingByDoves wsX0_sittingByDoves ({ frames := 2, cells := 0, slots := 0, locals := 44 } : Room) E [.ref (E.2.1 i 0)] (gU σ i c) π o (cSitD c) (gU σ i c) π o := by
  refine CtI.of (cc := cX0_sittingByDoves) (own := RX0) (maxL := 1) (ret := (some .int)) [some (.ref (E.2.1 i 0))] (by decide) rfl rfl (Nat.le_of_ble_eq_true rfl) rfl ?_
  intro p e s m args below meth cd C hrt hlk
  have hinX0 : ∀ w ∈ wsX00, w ∈ wsX0_sittingByDoves := by decide +kernel
  refine G.aldn0 C dX0_sittingByDoves_0 ?_
  refine G.callVI0 C (k_X0_doveCount l hi) (cwV 0 C.1.2.2.2.2 gX0_sittingByDoves_X0_doveCount rfl rfl rfl (by decide +kernel) ⟨Nat.le_of_ble_eq_true rfl, Nat.le_of_ble_eq_true rfl⟩) (gO_c hi) rfl (Nat.le_of_ble_eq_true rfl) dX0_sittingByDoves_1 ?_
  refine G.aldn0 C dX0_sittingByDoves_4 ?_
  refine G.bipush C 24 dX0_sittingByDoves_5 (by decide) ?_
  refine G.callVI1 C (k_X0_placedAt l hi) (cwV 1 C.1.2.2.2.2 gX0_sittingByDoves_X0_placedAt rfl rfl rfl (by decide +kernel) ⟨Nat.le_of_ble_eq_true rfl, Nat.le_of_ble_eq_true rfl⟩) (gO_c hi) rfl (Nat.le_of_ble_eq_true rfl) dX0_sittingByDoves_7 ?_
  refine G.isub C dX0_sittingByDoves_10 ?_
  refine G.aldn0 C dX0_sittingByDoves_11 ?_
  refine G.iconst C (-1) dX0_sittingByDoves_12 (by decide) ?_
  refine G.callVI1 C (k_X0_placedAt l hi) (cwV 1 C.1.2.2.2.2 gX0_sittingByDoves_X0_placedAt rfl rfl rfl (by decide +kernel) ⟨Nat.le_of_ble_eq_true rfl, Nat.le_of_ble_eq_true rfl⟩) (gO_c hi) rfl (Nat.le_of_ble_eq_true rfl) dX0_sittingByDoves_13 ?_
  refine G.isub C dX0_sittingByDoves_16 ?_
  exact G.iret C hlk hrt dX0_sittingByDoves_17 (by rfl) (by exact fun _ h => h)
set_option maxRecDepth 100000 in
set_option maxHeartbeats 4000000 in
theorem k_X0_reasonNotHome (l : Launch) {E : gEn} {σ : gSt} {π : Nat → Nat} {o : Int64} {i : Nat} (hi : i < 9) {c : Nat → Nat → Int32} {x t : Int32} (hx : vp_in x 16) : CtI l yX0_reasonNotHome wsX0_reasonNotHome ({ frames := 0, cells := 0, slots := 0, locals := 0 } : Room) E [.ref (E.2.1 i 0), .int x, .int t] (gU σ i c) π o (cWhyHome c x t) (gU σ i c) π o := by
  refine CtI.of (cc := cX0_reasonNotHome) (own := RX0) (maxL := 3) (ret := (some .int)) [some (.ref (E.2.1 i 0)), some (.int x), some (.int t)] (by decide) rfl rfl (Nat.le_of_ble_eq_true rfl) rfl ?_
  intro p e s m args below meth cd C hrt hlk
  have hinX0 : ∀ w ∈ wsX00, w ∈ wsX0_reasonNotHome := by decide +kernel
  refine G.aldn0 C dX0_reasonNotHome_0 ?_
  refine G.getC C hi hinX0 0 (by decide) rfl (C.1.2.2.2.2 (.fieldLink RX0 11 RX0 "doves" "[[I") (by decide +kernel)) rfl dX0_reasonNotHome_1 ?_
  refine G.iconst C 2 dX0_reasonNotHome_4 (by decide) ?_
  refine G.aaldD C hi 4 (by unfold vp_in; decide) (by decide) dX0_reasonNotHome_5 ?_
  refine G.ildn1 C dX0_reasonNotHome_6 ?_
  refine G.ialdU C (n := 16) (j := 4) (d0 := _) (gN_c hi rfl) (gV_c hi (by omega)) (by first | assumption | exact vp_in_nI (by omega) (by omega) | (unfold vp_in; decide)) rfl dX0_reasonNotHome_7 ?_
  refine G.iconst C (-1) dX0_reasonNotHome_8 (by decide) ?_
  refine G.icmp_eq C 14 dX0_reasonNotHome_9 (by decide) (fun h9 => ?_) (fun h9 => ?_)
  · refine G.ildn2 C dX0_reasonNotHome_14 ?_
    refine G.aldn0 C dX0_reasonNotHome_15 ?_
    refine G.getC C hi hinX0 7 (by decide) rfl (C.1.2.2.2.2 (.fieldLink RX0 50 RX0 "time" "I") (by decide +kernel)) rfl dX0_reasonNotHome_16 ?_
    refine G.icmp_ge C 26 dX0_reasonNotHome_19 (by decide) (fun h19 => ?_) (fun h19 => ?_)
    · refine G.iconst C 0 dX0_reasonNotHome_26 (by decide) ?_
      exact G.iret C hlk hrt dX0_reasonNotHome_27 (by simp [cWhyHome, *]) (by exact fun _ h => h)
    · refine G.iconst C 2 dX0_reasonNotHome_22 (by decide) ?_
      refine G.goto C 27 dX0_reasonNotHome_23 (by decide) ?_
      exact G.iret C hlk hrt dX0_reasonNotHome_27 (by simp [cWhyHome, *]) (by exact fun _ h => h)
  · refine G.iconst C 1 dX0_reasonNotHome_12 (by decide) ?_
    exact G.iret C hlk hrt dX0_reasonNotHome_13 (by simp [cWhyHome, *]) (by exact fun _ h => h)
set_option maxRecDepth 100000 in
set_option maxHeartbeats 4000000 in
theorem k_X0_reasonNotToShut (l : Launch) {E : gEn} {σ : gSt} {π : Nat → Nat} {o : Int64} {i : Nat} (hi : i < 9) {c : Nat → Nat → Int32} {x : Int32} (hx : vp_in x 24) : CtI l yX0_reasonNotToShut wsX0_reasonNotToShut ({ frames := 2, cells := 0, slots := 0, locals := 41 } : Room) E [.ref (E.2.1 i 0), .int x] (gU σ i c) π o (cWhyShut c x) (gU σ i c) π o := by
  refine CtI.of (cc := cX0_reasonNotToShut) (own := RX0) (maxL := 2) (ret := (some .int)) [some (.ref (E.2.1 i 0)), some (.int x)] (by decide) rfl rfl (Nat.le_of_ble_eq_true rfl) rfl ?_
  intro p e s m args below meth cd C hrt hlk
  have hinX0 : ∀ w ∈ wsX00, w ∈ wsX0_reasonNotToShut := by decide +kernel
  refine G.aldn0 C dX0_reasonNotToShut_0 ?_
  refine G.getC C hi hinX0 1 (by decide) rfl (C.1.2.2.2.2 (.fieldLink RX0 16 RX0 "holes" "[[I") (by decide +kernel)) rfl dX0_reasonNotToShut_1 ?_
  refine G.iconst C 0 dX0_reasonNotToShut_4 (by decide) ?_
  refine G.aaldH C hi 11 (by unfold vp_in; decide) (by decide) dX0_reasonNotToShut_5 ?_
  refine G.ildn1 C dX0_reasonNotToShut_6 ?_
  refine G.ialdU C (n := 24) (j := 11) (d0 := _) (gN_c hi rfl) (gV_c hi (by omega)) (by first | assumption | exact vp_in_nI (by omega) (by omega) | (unfold vp_in; decide)) rfl dX0_reasonNotToShut_7 ?_
  refine G.iconst C (-1) dX0_reasonNotToShut_8 (by decide) ?_
  refine G.icmp_eq C 14 dX0_reasonNotToShut_9 (by decide) (fun h9 => ?_) (fun h9 => ?_)
  · refine G.aldn0 C dX0_reasonNotToShut_14 ?_
    refine G.ildn1 C dX0_reasonNotToShut_15 ?_
    refine G.callVI1 C (k_X0_isOpen l hi) (cwV 1 C.1.2.2.2.2 gX0_reasonNotToShut_X0_isOpen rfl rfl rfl (by decide +kernel) ⟨Nat.le_of_ble_eq_true rfl, Nat.le_of_ble_eq_true rfl⟩) (gO_c hi) rfl (Nat.le_of_ble_eq_true rfl) dX0_reasonNotToShut_16 ?_
    refine G.if_eqB C 26 dX0_reasonNotToShut_19 (by decide) (fun h19 => ?_) (fun h19 => ?_)
    · refine G.iconst C 4 dX0_reasonNotToShut_26 (by decide) ?_
      exact G.iret C hlk hrt dX0_reasonNotToShut_27 (by simp [cWhyShut, *]) (by exact fun _ h => h)
    · refine G.iconst C 0 dX0_reasonNotToShut_22 (by decide) ?_
      refine G.goto C 27 dX0_reasonNotToShut_23 (by decide) ?_
      exact G.iret C hlk hrt dX0_reasonNotToShut_27 (by simp [cWhyShut, *]) (by exact fun _ h => h)
  · refine G.iconst C 3 dX0_reasonNotToShut_12 (by decide) ?_
    exact G.iret C hlk hrt dX0_reasonNotToShut_13 (by simp [cWhyShut, *]) (by exact fun _ h => h)
set_option maxRecDepth 100000 in
set_option maxHeartbeats 4000000 in
theorem k_X0_reasonNotToBuy (l : Launch) {E : gEn} {σ : gSt} {π : Nat → Nat} {o : Int64} {i : Nat} (hi : i < 9) {c : Nat → Nat → Int32} {x : Int32} (hx : vp_in x 24) : CtI l yX0_reasonNotToBuy wsX0_reasonNotToBuy ({ frames := 2, cells := 0, slots := 0, locals := 43 } : Room) E [.ref (E.2.1 i 0), .int x] (gU σ i c) π o (cWhyBuy c x) (gU σ i c) π o := by
  refine CtI.of (cc := cX0_reasonNotToBuy) (own := RX0) (maxL := 2) (ret := (some .int)) [some (.ref (E.2.1 i 0)), some (.int x)] (by decide) rfl rfl (Nat.le_of_ble_eq_true rfl) rfl ?_
  intro p e s m args below meth cd C hrt hlk
  have hinX0 : ∀ w ∈ wsX00, w ∈ wsX0_reasonNotToBuy := by decide +kernel
  refine G.aldn0 C dX0_reasonNotToBuy_0 ?_
  refine G.callVI0 C (k_X0_doveCount l hi) (cwV 0 C.1.2.2.2.2 gX0_reasonNotToBuy_X0_doveCount rfl rfl rfl (by decide +kernel) ⟨Nat.le_of_ble_eq_true rfl, Nat.le_of_ble_eq_true rfl⟩) (gO_c hi) rfl (Nat.le_of_ble_eq_true rfl) dX0_reasonNotToBuy_1 ?_
  refine G.bipush C 16 dX0_reasonNotToBuy_4 (by decide) ?_
  refine G.icmp_lt C 11 dX0_reasonNotToBuy_6 (by decide) (fun h6 => ?_) (fun h6 => ?_)
  · refine G.aldn0 C dX0_reasonNotToBuy_11 ?_
    refine G.getC C hi hinX0 1 (by decide) rfl (C.1.2.2.2.2 (.fieldLink RX0 16 RX0 "holes" "[[I") (by decide +kernel)) rfl dX0_reasonNotToBuy_12 ?_
    refine G.iconst C 1 dX0_reasonNotToBuy_15 (by decide) ?_
    refine G.aaldH C hi 12 (by unfold vp_in; decide) (by decide) dX0_reasonNotToBuy_16 ?_
    refine G.ildn1 C dX0_reasonNotToBuy_17 ?_
    refine G.ialdU C (n := 24) (j := 12) (d0 := _) (gN_c hi rfl) (gV_c hi (by omega)) (by first | assumption | exact vp_in_nI (by omega) (by omega) | (unfold vp_in; decide)) rfl dX0_reasonNotToBuy_18 ?_
    refine G.iconst C (-1) dX0_reasonNotToBuy_19 (by decide) ?_
    refine G.icmp_eq C 26 dX0_reasonNotToBuy_20 (by decide) (fun h20 => ?_) (fun h20 => ?_)
    · refine G.aldn0 C dX0_reasonNotToBuy_26 ?_
      refine G.ildn1 C dX0_reasonNotToBuy_27 ?_
      refine G.callVI1 C (k_X0_isOpen l hi) (cwV 1 C.1.2.2.2.2 gX0_reasonNotToBuy_X0_isOpen rfl rfl rfl (by decide +kernel) ⟨Nat.le_of_ble_eq_true rfl, Nat.le_of_ble_eq_true rfl⟩) (gO_c hi) rfl (Nat.le_of_ble_eq_true rfl) dX0_reasonNotToBuy_28 ?_
      refine G.if_eqB C 38 dX0_reasonNotToBuy_31 (by decide) (fun h31 => ?_) (fun h31 => ?_)
      · refine G.bipush C 7 dX0_reasonNotToBuy_38 (by decide) ?_
        exact G.iret C hlk hrt dX0_reasonNotToBuy_40 (by simp [cWhyBuy, *]) (by exact fun _ h => h)
      · refine G.iconst C 0 dX0_reasonNotToBuy_34 (by decide) ?_
        refine G.goto C 40 dX0_reasonNotToBuy_35 (by decide) ?_
        exact G.iret C hlk hrt dX0_reasonNotToBuy_40 (by simp [cWhyBuy, *]) (by exact fun _ h => h)
    · refine G.bipush C 6 dX0_reasonNotToBuy_23 (by decide) ?_
      exact G.iret C hlk hrt dX0_reasonNotToBuy_25 (by simp [cWhyBuy, *]) (by exact fun _ h => h)
  · refine G.iconst C 5 dX0_reasonNotToBuy_9 (by decide) ?_
    exact G.iret C hlk hrt dX0_reasonNotToBuy_10 (by simp [cWhyBuy, *]) (by exact fun _ h => h)
set_option maxRecDepth 100000 in
set_option maxHeartbeats 4000000 in
theorem k_X0_reasonNotToPair (l : Launch) {E : gEn} {σ : gSt} {π : Nat → Nat} {o : Int64} {i : Nat} (hi : i < 9) {c : Nat → Nat → Int32} {x y : Int32} (hx : vp_in x 16) (hy : vp_in y 16) : CtI l yX0_reasonNotToPair wsX0_reasonNotToPair ({ frames := 0, cells := 0, slots := 0, locals := 0 } : Room) E [.ref (E.2.1 i 0), .int x, .int y] (gU σ i c) π o (cWhyPair c x y) (gU σ i c) π o := by
  refine CtI.of (cc := cX0_reasonNotToPair) (own := RX0) (maxL := 4) (ret := (some .int)) [some (.ref (E.2.1 i 0)), some (.int x), some (.int y), none] (by decide) rfl rfl (Nat.le_of_ble_eq_true rfl) rfl ?_
  intro p e s m args below meth cd C hrt hlk
  have hinX0 : ∀ w ∈ wsX00, w ∈ wsX0_reasonNotToPair := by decide +kernel
  refine G.ildn1 C dX0_reasonNotToPair_0 ?_
  refine G.ildn2 C dX0_reasonNotToPair_1 ?_
  refine G.icmp_ne C 8 dX0_reasonNotToPair_2 (by decide) (fun h2 => ?_) (fun h2 => ?_)
  · refine G.aldn0 C dX0_reasonNotToPair_8 ?_
    refine G.getC C hi hinX0 0 (by decide) rfl (C.1.2.2.2.2 (.fieldLink RX0 11 RX0 "doves" "[[I") (by decide +kernel)) rfl dX0_reasonNotToPair_9 ?_
    refine G.iconst C 3 dX0_reasonNotToPair_12 (by decide) ?_
    refine G.aaldD C hi 5 (by unfold vp_in; decide) (by decide) dX0_reasonNotToPair_13 ?_
    refine G.ildn1 C dX0_reasonNotToPair_14 ?_
    refine G.ialdU C (n := 16) (j := 5) (d0 := _) (gN_c hi rfl) (gV_c hi (by omega)) (by first | assumption | exact vp_in_nI (by omega) (by omega) | (unfold vp_in; decide)) rfl dX0_reasonNotToPair_15 ?_
    refine G.iconst C (-1) dX0_reasonNotToPair_16 (by decide) ?_
    refine G.icmp_ne C 32 dX0_reasonNotToPair_17 (by decide) (fun h17 => ?_) (fun h17 => ?_)
    · refine G.iconst C 1 dX0_reasonNotToPair_32 (by decide) ?_
      refine G.goto C 37 dX0_reasonNotToPair_33 (by decide) ?_
      refine G.istn3 C dX0_reasonNotToPair_37 (by omega) rfl ?_
      refine G.ildn3 C dX0_reasonNotToPair_38 ?_
      refine G.if_eq C 47 dX0_reasonNotToPair_39 (by decide) (fun h => absurd h (by decide)) (fun _ => ?_)
      refine G.bipush C 9 dX0_reasonNotToPair_42 (by decide) ?_
      refine G.goto C 48 dX0_reasonNotToPair_44 (by decide) ?_
      exact G.iret C hlk hrt dX0_reasonNotToPair_48 (by simp [cWhyPair, *]) (by exact fun _ h => h)
    · refine G.aldn0 C dX0_reasonNotToPair_20 ?_
      refine G.getC C hi hinX0 0 (by decide) rfl (C.1.2.2.2.2 (.fieldLink RX0 11 RX0 "doves" "[[I") (by decide +kernel)) rfl dX0_reasonNotToPair_21 ?_
      refine G.iconst C 3 dX0_reasonNotToPair_24 (by decide) ?_
      refine G.aaldD C hi 5 (by unfold vp_in; decide) (by decide) dX0_reasonNotToPair_25 ?_
      refine G.ildn2 C dX0_reasonNotToPair_26 ?_
      refine G.ialdU C (n := 16) (j := 5) (d0 := _) (gN_c hi rfl) (gV_c hi (by omega)) (by first | assumption | exact vp_in_nI (by omega) (by omega) | (unfold vp_in; decide)) rfl dX0_reasonNotToPair_27 ?_
      refine G.iconst C (-1) dX0_reasonNotToPair_28 (by decide) ?_
      refine G.icmp_eq C 36 dX0_reasonNotToPair_29 (by decide) (fun h29 => ?_) (fun h29 => ?_)
      · refine G.iconst C 0 dX0_reasonNotToPair_36 (by decide) ?_
        refine G.istn3 C dX0_reasonNotToPair_37 (by omega) rfl ?_
        refine G.ildn3 C dX0_reasonNotToPair_38 ?_
        refine G.if_eq C 47 dX0_reasonNotToPair_39 (by decide) (fun _ => ?_) (fun h => absurd (by decide) h)
        refine G.iconst C 0 dX0_reasonNotToPair_47 (by decide) ?_
        exact G.iret C hlk hrt dX0_reasonNotToPair_48 (by simp [cWhyPair, *]) (by exact fun _ h => h)
      · refine G.iconst C 1 dX0_reasonNotToPair_32 (by decide) ?_
        refine G.goto C 37 dX0_reasonNotToPair_33 (by decide) ?_
        refine G.istn3 C dX0_reasonNotToPair_37 (by omega) rfl ?_
        refine G.ildn3 C dX0_reasonNotToPair_38 ?_
        refine G.if_eq C 47 dX0_reasonNotToPair_39 (by decide) (fun h => absurd h (by decide)) (fun _ => ?_)
        refine G.bipush C 9 dX0_reasonNotToPair_42 (by decide) ?_
        refine G.goto C 48 dX0_reasonNotToPair_44 (by decide) ?_
        exact G.iret C hlk hrt dX0_reasonNotToPair_48 (by simp [cWhyPair, *]) (by exact fun _ h => h)
  · refine G.bipush C 8 dX0_reasonNotToPair_5 (by decide) ?_
    exact G.iret C hlk hrt dX0_reasonNotToPair_7 (by simp [cWhyPair, *]) (by exact fun _ h => h)
end
section
/-! the cote's changes -/
def cSz (c : Nat → Nat → Int32) : Prop := ∃ z : Nat, z ≤ 25 ∧ c 17 2 = nI z
theorem cSz_in {c : Nat → Nat → Int32} (h : cSz c) (h6 : ¬ 24 < c 17 2) : vp_in (c 17 2) 25 := by
  obtain ⟨z, hz, e⟩ := h
  rw [e] at h6 ⊢
  refine vp_in_nI ?_ (by omega)
  rcases Nat.lt_or_ge z 25 with q | q
  · exact q
  · exact absurd (nI_lt (a := 24) (by omega) (by omega)) h6
theorem cW_ne {c : Nat → Nat → Int32} {j d j' d' : Nat} {v : Int32} (h : j' ≠ j) : cW c j d v j' d' = c j' d' := by simp [cW, h]
theorem cSz_W {c : Nat → Nat → Int32} {j d : Nat} {v : Int32} (h : 17 ≠ j) (hz : cSz c) : cSz (cW c j d v) := by
  obtain ⟨z, h1, e⟩ := hz
  exact ⟨z, h1, by rw [cW_ne h]; exact e⟩
theorem cSz_0 {c : Nat → Nat → Int32} : cSz (cW c 17 2 0) := ⟨0, by omega, by simp [cW, nI_0]⟩
def cNote (c : Nat → Nat → Int32) (x y : Int32) : Nat → Nat → Int32 := if 24 < c 17 2 then c else cW (cW (cW c 18 (ix (c 17 2)) x) 19 (ix (c 17 2)) y) 17 2 (c 17 2 + 1)
theorem cSz_note {c : Nat → Nat → Int32} {x y : Int32} (h : cSz c) : cSz (cNote c x y) := by
  unfold cNote
  split
  · exact h
  · rename_i h6
    obtain ⟨z, hz, e⟩ := h
    have h5 : z < 25 := by
      rcases Nat.lt_or_ge z 25 with q | q
      · exact q
      · exact absurd (by rw [e]; exact nI_lt (a := 24) (by omega) (by omega)) h6
    exact ⟨z + 1, by omega, by simp only [cW, if_true]; rw [e]; exact nI_1 z⟩
def cSit (c : Nat → Nat → Int32) (x y : Int32) : Nat → Nat → Int32 := cNote (if hHole y = true then cW (cW c 4 (ix x) y) 11 (ix y) x else cW c 4 (ix x) y) x y
theorem cSz_sit {c : Nat → Nat → Int32} {x y : Int32} (h : cSz c) : cSz (cSit c x y) := by
  unfold cSit
  split
  · exact cSz_note (cSz_W (by decide) (cSz_W (by decide) h))
  · exact cSz_note (cSz_W (by decide) h)
/-- before the sit: the shift is counted, the one there is out -/
def cShift0 (c : Nat → Nat → Int32) (x y : Int32) : Nat → Nat → Int32 :=
  if c 5 (ix y) = c 11 (ix x) then cW (cW (cW c 0 8 (c 0 8 + 1)) 7 (ix (c 11 (ix x))) (c 7 (ix (c 11 (ix x))) + 1)) 4 (ix (c 11 (ix x))) (-1)
  else cW (cW (cW (cW c 0 8 (c 0 8 + 1)) 0 9 (c 0 9 + 1)) 7 (ix (c 11 (ix x))) (c 7 (ix (c 11 (ix x))) + 1)) 4 (ix (c 11 (ix x))) (-1)
def cShift (c : Nat → Nat → Int32) (x y : Int32) : Nat → Nat → Int32 := cSit (cShift0 c x y) y x
theorem cSz_shift0 {c : Nat → Nat → Int32} {x y : Int32} (h : cSz c) : cSz (cShift0 c x y) := by
  unfold cShift0
  split
  · exact cSz_W (by decide) (cSz_W (by decide) (cSz_W (by decide) h))
  · exact cSz_W (by decide) (cSz_W (by decide) (cSz_W (by decide) (cSz_W (by decide) h)))
theorem cSz_shift {c : Nat → Nat → Int32} {x y : Int32} (h : cSz c) : cSz (cShift c x y) := cSz_sit (cSz_shift0 h)
abbrev cSt : Type := Nat → Nat → Int32
def cEnter (c : cSt) (x : Int32) (b : Bool) : Int32 × cSt :=
  if cEx c (c 11 (ix (c 2 (ix x)))) = true then
    (if b = true then (c 11 (ix (c 2 (ix x))), cShift c (c 2 (ix x)) x) else (-1, cSit (cW c 4 (ix (c 11 (ix (c 2 (ix x))))) 24) x (c 2 (ix x))))
  else (-1, cSit c x (c 2 (ix x)))
theorem cSz_enter {c : cSt} {x : Int32} {b : Bool} (h : cSz c) : cSz (cEnter c x b).2 := by
  unfold cEnter
  split
  · split
    · exact cSz_shift h
    · exact cSz_sit (cSz_W (by decide) h)
  · exact cSz_sit h
/-- the hole k places behind a dove's own, around -/
def cHk (c : cSt) (x k : Int32) : Int32 := (c 2 (ix x) + k) - (c 2 (ix x) + k) / 24 * 24
def cFreeL (c : cSt) (x : Int32) : Nat → Nat → Int32
  | 0, _ => -1
  | n + 1, k => if cFree c (cHk c x (nI k)) = true then cHk c x (nI k) else cFreeL c x n (k + 1)
def cMP (c : cSt) (x : Int32) : Int32 := if cEx c (c 5 (ix x)) = true then c 4 (ix (c 5 (ix x))) else -1
def cFirst (c : cSt) (x : Int32) : Int32 :=
  if hHole (cMP c x) = true then
    (if cFree c (cMP c x - 1) = true then cMP c x - 1 else if cFree c (cMP c x + 1) = true then cMP c x + 1 else cFreeL c x 24 0)
  else cFreeL c x 24 0
def cSettle (c : cSt) (x : Int32) (b : Bool) : Int32 × cSt :=
  if cFirst c x = -1 then
    (if b = true ∧ cOpen c (cHk c x 1) = true ∧ cEx c (c 11 (ix (cHk c x 1))) = true ∧ ¬ c 3 (ix x) ≤ c 3 (ix (c 11 (ix (cHk c x 1)))) then (c 11 (ix (cHk c x 1)), cShift c (cHk c x 1) x)
     else (-1, cSit c x 24))
  else (-1, cSit c x (cFirst c x))
theorem cSz_settle {c : cSt} {x : Int32} {b : Bool} (h : cSz c) : cSz (cSettle c x b).2 := by
  unfold cSettle
  split
  · split
    · exact cSz_shift h
    · exact cSz_sit h
  · exact cSz_sit h
def cRun (most : Int32) : Nat → cSt → Int32 → cSt
  | 0, c, _ => c
  | n + 1, c, y => if cEx c y = true then cRun most n (cSettle c y (decide (¬ most ≤ c 0 8))).2 (cSettle c y (decide (¬ most ≤ c 0 8))).1 else c
/-- ahead of the loop -/
def cCome0 (c : cSt) (x t : Int32) : Int32 × cSt :=
  if t ≤ c 14 0 then
    (if cOpen (cW (cW c 0 7 t) 17 2 0) (c 2 (ix x)) = true then cEnter (cW (cW c 0 7 t) 17 2 0) x (decide (¬ c 0 8 + c 14 1 ≤ c 0 8)) else (x, cW (cW c 0 7 t) 17 2 0))
  else (x, cW (cW (cW c 0 7 t) 17 2 0) 6 (ix x) (c 6 (ix x) + 1))
theorem cSz_come0 {c : cSt} {x t : Int32} : cSz (cCome0 c x t).2 := by
  unfold cCome0
  split
  · split
    · exact cSz_enter cSz_0
    · exact cSz_0
  · exact cSz_W (by decide) cSz_0
def cCome (c : cSt) (x t : Int32) : cSt := cRun (c 0 8 + c 14 1) 25 (cCome0 c x t).2 (cCome0 c x t).1
def cComeR (c : cSt) (x t : Int32) : Int32 := cCome c x t 0 8 - c 0 8
theorem ilt_n {x y : Int32} (h : ¬ y ≤ x) : x < y := by
  rw [Int32.le_iff_toInt_le] at h
  rw [Int32.lt_iff_toInt_lt]
  omega
theorem ile_n {x y : Int32} (h : y ≤ x) : ¬ x < y := by
  rw [Int32.le_iff_toInt_le] at h
  rw [Int32.lt_iff_toInt_lt]
  omega
set_option maxRecDepth 100000 in
set_option maxHeartbeats 4000000 in
theorem k_X2_note (l : Launch) {E : gEn} {σ : gSt} {π : Nat → Nat} {o : Int64} {i : Nat} (hi : i < 9) {c : cSt} {x y : Int32} (hz : cSz c) : CtV l yX2_note wsX2_note ({ frames := 0, cells := 0, slots := 0, locals := 0 } : Room) E [.ref (E.2.1 i 17), .int x, .int y] (gU σ i c) π o  (gU σ i (cNote c x y)) π o := by
  refine CtV.of (cc := cX2_note) (own := RX2) (maxL := 3) (ret := none) [some (.ref (E.2.1 i 17)), some (.int x), some (.int y)] (by decide) rfl rfl (Nat.le_of_ble_eq_true rfl) rfl ?_
  intro p e s m args below meth cd C hrt hlk
  have hinX2 : ∀ w ∈ wsX20, w ∈ wsX2_note := by decide +kernel
  refine G.aldn0 C dX2_note_0 ?_
  refine G.getW C hi hinX2 2 (by decide) rfl (C.1.2.2.2.2 (.fieldLink RX2 18 RX2 "size" "I") (by decide +kernel)) rfl dX2_note_1 ?_
  refine G.bipush C 24 dX2_note_4 (by decide) ?_
  refine G.icmp_gt C 39 dX2_note_6 (by decide) (fun h6 => ?_) (fun h6 => ?_)
  · exact G.vret C hlk hrt dX2_note_39 (by intro H h; simpa [cNote, *] using h)
  · refine G.aldn0 C dX2_note_9 ?_
    refine G.getW C hi hinX2 0 (by decide) rfl (C.1.2.2.2.2 (.fieldLink RX2 9 RX2 "who" "[I") (by decide +kernel)) rfl dX2_note_10 ?_
    refine G.aldn0 C dX2_note_13 ?_
    refine G.getW C hi hinX2 2 (by decide) rfl (C.1.2.2.2.2 (.fieldLink RX2 18 RX2 "size" "I") (by decide +kernel)) rfl dX2_note_14 ?_
    refine G.ildn1 C dX2_note_17 ?_
    refine G.iastU C (n := 25) (j := 18) (d0 := _) (gN_c hi rfl) (gV_c hi (by omega)) (cSz_in hz h6) rfl dX2_note_18 ?_
    refine G.aldn0 C dX2_note_19 ?_
    refine G.getW C hi hinX2 1 (by decide) rfl (C.1.2.2.2.2 (.fieldLink RX2 15 RX2 "where" "[I") (by decide +kernel)) rfl dX2_note_20 ?_
    refine G.aldn0 C dX2_note_23 ?_
    refine G.getW C hi hinX2 2 (by decide) rfl (C.1.2.2.2.2 (.fieldLink RX2 18 RX2 "size" "I") (by decide +kernel)) rfl dX2_note_24 ?_
    refine G.topI (c 17 2) rfl ?_
    refine G.ildn2 C dX2_note_27 ?_
    refine G.iastU C (n := 25) (j := 19) (d0 := _) (gN_c hi rfl) (gV_c hi (by omega)) (cSz_in hz h6) rfl dX2_note_28 ?_
    refine G.aldn0 C dX2_note_29 ?_
    refine G.dup C dX2_note_30 rfl ?_
    refine G.getW C hi hinX2 2 (by decide) rfl (C.1.2.2.2.2 (.fieldLink RX2 18 RX2 "size" "I") (by decide +kernel)) rfl dX2_note_31 ?_
    refine G.topI (c 17 2) rfl ?_
    refine G.iconst C 1 dX2_note_34 (by decide) ?_
    refine G.iadd C dX2_note_35 ?_
    refine G.putW (ty := .int) C hi hinX2 2 (by decide) rfl (C.1.2.2.2.2 (.fieldLink RX2 18 RX2 "size" "I") (by decide +kernel)) rfl rfl rfl rfl rfl dX2_note_36 ?_
    exact G.vret C hlk hrt dX2_note_39 (by intro H h; simpa [cNote, *] using h)
set_option maxRecDepth 100000 in
set_option maxHeartbeats 4000000 in
theorem k_X0_sit (l : Launch) {E : gEn} {σ : gSt} {π : Nat → Nat} {o : Int64} {i : Nat} (hi : i < 9) {c : Nat → Nat → Int32} {x y : Int32} (hx : vp_in x 16) (hz : cSz c) : CtV l yX0_sit wsX0_sit ({ frames := 1, cells := 0, slots := 0, locals := 22 } : Room) E [.ref (E.2.1 i 0), .int x, .int y] (gU σ i c) π o  (gU σ i (cSit c x y)) π o := by
  refine CtV.of (cc := cX0_sit) (own := RX0) (maxL := 3) (ret := none) [some (.ref (E.2.1 i 0)), some (.int x), some (.int y)] (by decide) rfl rfl (Nat.le_of_ble_eq_true rfl) rfl ?_
  intro p e s m args below meth cd C hrt hlk
  have hinX0 : ∀ w ∈ wsX00, w ∈ wsX0_sit := by decide +kernel
  have hinX2 : ∀ w ∈ wsX20, w ∈ wsX0_sit := by decide +kernel
  refine G.aldn0 C dX0_sit_0 ?_
  refine G.getC C hi hinX0 0 (by decide) rfl (C.1.2.2.2.2 (.fieldLink RX0 11 RX0 "doves" "[[I") (by decide +kernel)) rfl dX0_sit_1 ?_
  refine G.iconst C 2 dX0_sit_4 (by decide) ?_
  refine G.aaldD C hi 4 (by unfold vp_in; decide) (by decide) dX0_sit_5 ?_
  refine G.ildn1 C dX0_sit_6 ?_
  refine G.ildn2 C dX0_sit_7 ?_
  refine G.iastU C (n := 16) (j := 4) (d0 := _) (gN_c hi rfl) (gV_c hi (by omega)) (by first | assumption | exact vp_in_nI (by omega) (by omega) | (unfold vp_in; decide)) rfl dX0_sit_8 ?_
  refine G.ildn2 C dX0_sit_9 ?_
  refine G.callSNI1 C (k_X3_isHole l) ⟨va_cnB 1 C.1.2.2.2.2 gX0_sit_X3_isHole_n59 rfl rfl rfl (va_Nw_isHole C.2.1) (C.1.2.2.2.2 (.initialized RX3) (by decide +kernel)) (by decide +kernel) ⟨Nat.le_of_ble_eq_true rfl, Nat.le_of_ble_eq_true rfl⟩, (C.1.2.2.2.2 (.static yX3_isHole) (by decide +kernel)), trivial⟩ (Nat.le_of_ble_eq_true rfl) dX0_sit_10 ?_
  refine G.if_eqB C 25 dX0_sit_13 (by decide) (fun h13 => ?_) (fun h13 => ?_)
  · refine G.aldn0 C dX0_sit_25 ?_
    refine G.getC C hi hinX0 5 (by decide) rfl (C.1.2.2.2.2 (.fieldLink RX0 32 RX0 "way" "LLateDoves$Way;") (by decide +kernel)) rfl dX0_sit_26 ?_
    refine G.ildn1 C dX0_sit_29 ?_
    refine G.ildn2 C dX0_sit_30 ?_
    refine G.callVV2 C (k_X2_note l hi (by first | exact cSz_W (by decide) (cSz_W (by decide) hz) | exact cSz_W (by decide) hz)) (cwV 2 C.1.2.2.2.2 gX0_sit_X2_note rfl rfl rfl (by decide +kernel) ⟨Nat.le_of_ble_eq_true rfl, Nat.le_of_ble_eq_true rfl⟩) (gO_w hi) rfl (Nat.le_of_ble_eq_true rfl) dX0_sit_31 ?_
    exact G.vret C hlk hrt dX0_sit_34 (by intro H h; simpa [cSit, *] using h)
  · refine G.aldn0 C dX0_sit_16 ?_
    refine G.getC C hi hinX0 1 (by decide) rfl (C.1.2.2.2.2 (.fieldLink RX0 16 RX0 "holes" "[[I") (by decide +kernel)) rfl dX0_sit_17 ?_
    refine G.iconst C 0 dX0_sit_20 (by decide) ?_
    refine G.aaldH C hi 11 (by unfold vp_in; decide) (by decide) dX0_sit_21 ?_
    refine G.ildn2 C dX0_sit_22 ?_
    refine G.ildn1 C dX0_sit_23 ?_
    refine G.iastU C (n := 24) (j := 11) (d0 := _) (gN_c hi rfl) (gV_c hi (by omega)) (hHole_in h13) rfl dX0_sit_24 ?_
    refine G.aldn0 C dX0_sit_25 ?_
    refine G.getC C hi hinX0 5 (by decide) rfl (C.1.2.2.2.2 (.fieldLink RX0 32 RX0 "way" "LLateDoves$Way;") (by decide +kernel)) rfl dX0_sit_26 ?_
    refine G.ildn1 C dX0_sit_29 ?_
    refine G.ildn2 C dX0_sit_30 ?_
    refine G.callVV2 C (k_X2_note l hi (by first | exact cSz_W (by decide) (cSz_W (by decide) hz) | exact cSz_W (by decide) hz)) (cwV 2 C.1.2.2.2.2 gX0_sit_X2_note rfl rfl rfl (by decide +kernel) ⟨Nat.le_of_ble_eq_true rfl, Nat.le_of_ble_eq_true rfl⟩) (gO_w hi) rfl (Nat.le_of_ble_eq_true rfl) dX0_sit_31 ?_
    exact G.vret C hlk hrt dX0_sit_34 (by intro H h; simpa [cSit, *] using h)
set_option maxRecDepth 100000 in
set_option maxHeartbeats 4000000 in
theorem k_X0_shiftFrom (l : Launch) {E : gEn} {σ : gSt} {π : Nat → Nat} {o : Int64} {i : Nat} (hi : i < 9) {c : Nat → Nat → Int32} {x y : Int32} (hx : vp_in x 24) (hy : vp_in y 16) (ht : vp_in (c 11 (ix x)) 16) (hz : cSz c) : CtI l yX0_shiftFrom wsX0_shiftFrom ({ frames := 2, cells := 0, slots := 0, locals := 44 } : Room) E [.ref (E.2.1 i 0), .int x, .int y] (gU σ i c) π o (c 11 (ix x)) (gU σ i (cShift c x y)) π o := by
  refine CtI.of (cc := cX0_shiftFrom) (own := RX0) (maxL := 4) (ret := (some .int)) [some (.ref (E.2.1 i 0)), some (.int x), some (.int y), none] (by decide) rfl rfl (Nat.le_of_ble_eq_true rfl) rfl ?_
  intro p e s m args below meth cd C hrt hlk
  have hinX0 : ∀ w ∈ wsX00, w ∈ wsX0_shiftFrom := by decide +kernel
  have hinX2 : ∀ w ∈ wsX20, w ∈ wsX0_shiftFrom := by decide +kernel
  refine G.aldn0 C dX0_shiftFrom_0 ?_
  refine G.getC C hi hinX0 1 (by decide) rfl (C.1.2.2.2.2 (.fieldLink RX0 16 RX0 "holes" "[[I") (by decide +kernel)) rfl dX0_shiftFrom_1 ?_
  refine G.iconst C 0 dX0_shiftFrom_4 (by decide) ?_
  refine G.aaldH C hi 11 (by unfold vp_in; decide) (by decide) dX0_shiftFrom_5 ?_
  refine G.ildn1 C dX0_shiftFrom_6 ?_
  refine G.ialdU C (n := 24) (j := 11) (d0 := _) (gN_c hi rfl) (gV_c hi (by omega)) (by first | assumption | exact vp_in_nI (by omega) (by omega) | (unfold vp_in; decide)) rfl dX0_shiftFrom_7 ?_
  refine G.istn3 C dX0_shiftFrom_8 (by omega) rfl ?_
  refine G.aldn0 C dX0_shiftFrom_9 ?_
  refine G.dup C dX0_shiftFrom_10 rfl ?_
  refine G.getC C hi hinX0 8 (by decide) rfl (C.1.2.2.2.2 (.fieldLink RX0 53 RX0 "shifts" "I") (by decide +kernel)) rfl dX0_shiftFrom_11 ?_
  refine G.iconst C 1 dX0_shiftFrom_14 (by decide) ?_
  refine G.iadd C dX0_shiftFrom_15 ?_
  refine G.putC (ty := .int) C hi hinX0 8 (by decide) rfl (C.1.2.2.2.2 (.fieldLink RX0 53 RX0 "shifts" "I") (by decide +kernel)) rfl rfl rfl rfl rfl dX0_shiftFrom_16 ?_
  refine G.aldn0 C dX0_shiftFrom_19 ?_
  refine G.getC C hi hinX0 0 (by decide) rfl (C.1.2.2.2.2 (.fieldLink RX0 11 RX0 "doves" "[[I") (by decide +kernel)) rfl dX0_shiftFrom_20 ?_
  refine G.iconst C 3 dX0_shiftFrom_23 (by decide) ?_
  refine G.aaldD C hi 5 (by unfold vp_in; decide) (by decide) dX0_shiftFrom_24 ?_
  refine G.ildn2 C dX0_shiftFrom_25 ?_
  refine G.ialdU C (n := 16) (j := 5) (d0 := _) (gN_c hi rfl) (gV_c hi (by omega)) (by first | assumption | exact vp_in_nI (by omega) (by omega) | (unfold vp_in; decide)) rfl dX0_shiftFrom_26 ?_
  refine G.topI (c 5 (ix y)) rfl ?_
  refine G.ildn3 C dX0_shiftFrom_27 ?_
  refine G.icmp_eq C 41 dX0_shiftFrom_28 (by decide) (fun h28 => ?_) (fun h28 => ?_)
  · refine G.aldn0 C dX0_shiftFrom_41 ?_
    refine G.getC C hi hinX0 0 (by decide) rfl (C.1.2.2.2.2 (.fieldLink RX0 11 RX0 "doves" "[[I") (by decide +kernel)) rfl dX0_shiftFrom_42 ?_
    refine G.iconst C 5 dX0_shiftFrom_45 (by decide) ?_
    refine G.aaldD C hi 7 (by unfold vp_in; decide) (by decide) dX0_shiftFrom_46 ?_
    refine G.ildn3 C dX0_shiftFrom_47 ?_
    refine G.dup2 C dX0_shiftFrom_48 rfl rfl ?_
    refine G.ialdU C (n := 16) (j := 7) (d0 := _) (gN_c hi rfl) (gV_c hi (by omega)) (by first | assumption | exact vp_in_nI (by omega) (by omega) | (unfold vp_in; decide)) rfl dX0_shiftFrom_49 ?_
    refine G.topI (c 7 (ix (c 11 (ix x)))) rfl ?_
    refine G.iconst C 1 dX0_shiftFrom_50 (by decide) ?_
    refine G.iadd C dX0_shiftFrom_51 ?_
    refine G.iastU C (n := 16) (j := 7) (d0 := _) (gN_c hi rfl) (gV_c hi (by omega)) (by first | assumption | exact vp_in_nI (by omega) (by omega) | (unfold vp_in; decide)) rfl dX0_shiftFrom_52 ?_
    refine G.aldn0 C dX0_shiftFrom_53 ?_
    refine G.getC C hi hinX0 0 (by decide) rfl (C.1.2.2.2.2 (.fieldLink RX0 11 RX0 "doves" "[[I") (by decide +kernel)) rfl dX0_shiftFrom_54 ?_
    refine G.iconst C 2 dX0_shiftFrom_57 (by decide) ?_
    refine G.aaldD C hi 4 (by unfold vp_in; decide) (by decide) dX0_shiftFrom_58 ?_
    refine G.ildn3 C dX0_shiftFrom_59 ?_
    refine G.iconst C (-1) dX0_shiftFrom_60 (by decide) ?_
    refine G.iastU C (n := 16) (j := 4) (d0 := _) (gN_c hi rfl) (gV_c hi (by omega)) (by first | assumption | exact vp_in_nI (by omega) (by omega) | (unfold vp_in; decide)) rfl dX0_shiftFrom_61 ?_
    refine G.aldn0 C dX0_shiftFrom_62 ?_
    refine G.ildn2 C dX0_shiftFrom_63 ?_
    refine G.ildn1 C dX0_shiftFrom_64 ?_
    refine G.callVV2 C (k_X0_sit l hi hy (by first | exact cSz_W (by decide) (cSz_W (by decide) (cSz_W (by decide) (cSz_W (by decide) hz))) | exact cSz_W (by decide) (cSz_W (by decide) (cSz_W (by decide) hz)))) (cwV 2 C.1.2.2.2.2 gX0_shiftFrom_X0_sit rfl rfl rfl (by decide +kernel) ⟨Nat.le_of_ble_eq_true rfl, Nat.le_of_ble_eq_true rfl⟩) (gO_c hi) rfl (Nat.le_of_ble_eq_true rfl) dX0_shiftFrom_65 ?_
    refine G.ildn3 C dX0_shiftFrom_68 ?_
    exact G.iret C hlk hrt dX0_shiftFrom_69 (by rfl) (by intro H h; simpa [cShift, cShift0, *] using h)
  · refine G.aldn0 C dX0_shiftFrom_31 ?_
    refine G.dup C dX0_shiftFrom_32 rfl ?_
    refine G.getC C hi hinX0 9 (by decide) rfl (C.1.2.2.2.2 (.fieldLink RX0 56 RX0 "quarrels" "I") (by decide +kernel)) rfl dX0_shiftFrom_33 ?_
    refine G.topI (c 0 9) rfl ?_
    refine G.iconst C 1 dX0_shiftFrom_36 (by decide) ?_
    refine G.iadd C dX0_shiftFrom_37 ?_
    refine G.putC (ty := .int) C hi hinX0 9 (by decide) rfl (C.1.2.2.2.2 (.fieldLink RX0 56 RX0 "quarrels" "I") (by decide +kernel)) rfl rfl rfl rfl rfl dX0_shiftFrom_38 ?_
    refine G.aldn0 C dX0_shiftFrom_41 ?_
    refine G.getC C hi hinX0 0 (by decide) rfl (C.1.2.2.2.2 (.fieldLink RX0 11 RX0 "doves" "[[I") (by decide +kernel)) rfl dX0_shiftFrom_42 ?_
    refine G.iconst C 5 dX0_shiftFrom_45 (by decide) ?_
    refine G.aaldD C hi 7 (by unfold vp_in; decide) (by decide) dX0_shiftFrom_46 ?_
    refine G.ildn3 C dX0_shiftFrom_47 ?_
    refine G.dup2 C dX0_shiftFrom_48 rfl rfl ?_
    refine G.ialdU C (n := 16) (j := 7) (d0 := _) (gN_c hi rfl) (gV_c hi (by omega)) (by first | assumption | exact vp_in_nI (by omega) (by omega) | (unfold vp_in; decide)) rfl dX0_shiftFrom_49 ?_
    refine G.topI (c 7 (ix (c 11 (ix x)))) rfl ?_
    refine G.iconst C 1 dX0_shiftFrom_50 (by decide) ?_
    refine G.iadd C dX0_shiftFrom_51 ?_
    refine G.iastU C (n := 16) (j := 7) (d0 := _) (gN_c hi rfl) (gV_c hi (by omega)) (by first | assumption | exact vp_in_nI (by omega) (by omega) | (unfold vp_in; decide)) rfl dX0_shiftFrom_52 ?_
    refine G.aldn0 C dX0_shiftFrom_53 ?_
    refine G.getC C hi hinX0 0 (by decide) rfl (C.1.2.2.2.2 (.fieldLink RX0 11 RX0 "doves" "[[I") (by decide +kernel)) rfl dX0_shiftFrom_54 ?_
    refine G.iconst C 2 dX0_shiftFrom_57 (by decide) ?_
    refine G.aaldD C hi 4 (by unfold vp_in; decide) (by decide) dX0_shiftFrom_58 ?_
    refine G.ildn3 C dX0_shiftFrom_59 ?_
    refine G.iconst C (-1) dX0_shiftFrom_60 (by decide) ?_
    refine G.iastU C (n := 16) (j := 4) (d0 := _) (gN_c hi rfl) (gV_c hi (by omega)) (by first | assumption | exact vp_in_nI (by omega) (by omega) | (unfold vp_in; decide)) rfl dX0_shiftFrom_61 ?_
    refine G.aldn0 C dX0_shiftFrom_62 ?_
    refine G.ildn2 C dX0_shiftFrom_63 ?_
    refine G.ildn1 C dX0_shiftFrom_64 ?_
    refine G.callVV2 C (k_X0_sit l hi hy (by first | exact cSz_W (by decide) (cSz_W (by decide) (cSz_W (by decide) (cSz_W (by decide) hz))) | exact cSz_W (by decide) (cSz_W (by decide) (cSz_W (by decide) hz)))) (cwV 2 C.1.2.2.2.2 gX0_shiftFrom_X0_sit rfl rfl rfl (by decide +kernel) ⟨Nat.le_of_ble_eq_true rfl, Nat.le_of_ble_eq_true rfl⟩) (gO_c hi) rfl (Nat.le_of_ble_eq_true rfl) dX0_shiftFrom_65 ?_
    refine G.ildn3 C dX0_shiftFrom_68 ?_
    exact G.iret C hlk hrt dX0_shiftFrom_69 (by rfl) (by intro H h; simpa [cShift, cShift0, *] using h)
set_option maxRecDepth 100000 in
set_option maxHeartbeats 4000000 in
theorem k_X0_enterOwnHole (l : Launch) {E : gEn} {σ : gSt} {π : Nat → Nat} {o : Int64} {i : Nat} (hi : i < 9) {c : Nat → Nat → Int32} {x : Int32} {b : Bool} (hx : vp_in x 16) (ho : vp_in (c 2 (ix x)) 24) (hz : cSz c) : CtI l yX0_enterOwnHole wsX0_enterOwnHole ({ frames := 3, cells := 0, slots := 0, locals := 67 } : Room) E [.ref (E.2.1 i 0), .int x, .int (bI b)] (gU σ i c) π o ((cEnter c x b).1) (gU σ i ((cEnter c x b).2)) π o := by
  refine CtI.of (cc := cX0_enterOwnHole) (own := RX0) (maxL := 5) (ret := (some .int)) [some (.ref (E.2.1 i 0)), some (.int x), some (.int (bI b)), none, none] (by decide) rfl rfl (Nat.le_of_ble_eq_true rfl) rfl ?_
  intro p e s m args below meth cd C hrt hlk
  have hinX0 : ∀ w ∈ wsX00, w ∈ wsX0_enterOwnHole := by decide +kernel
  have hinX2 : ∀ w ∈ wsX20, w ∈ wsX0_enterOwnHole := by decide +kernel
  refine G.aldn0 C dX0_enterOwnHole_0 ?_
  refine G.getC C hi hinX0 0 (by decide) rfl (C.1.2.2.2.2 (.fieldLink RX0 11 RX0 "doves" "[[I") (by decide +kernel)) rfl dX0_enterOwnHole_1 ?_
  refine G.iconst C 0 dX0_enterOwnHole_4 (by decide) ?_
  refine G.aaldD C hi 2 (by unfold vp_in; decide) (by decide) dX0_enterOwnHole_5 ?_
  refine G.ildn1 C dX0_enterOwnHole_6 ?_
  refine G.ialdU C (n := 16) (j := 2) (d0 := _) (gN_c hi rfl) (gV_c hi (by omega)) (by first | assumption | exact vp_in_nI (by omega) (by omega) | (unfold vp_in; decide)) rfl dX0_enterOwnHole_7 ?_
  refine G.istn3 C dX0_enterOwnHole_8 (by omega) rfl ?_
  refine G.aldn0 C dX0_enterOwnHole_9 ?_
  refine G.getC C hi hinX0 1 (by decide) rfl (C.1.2.2.2.2 (.fieldLink RX0 16 RX0 "holes" "[[I") (by decide +kernel)) rfl dX0_enterOwnHole_10 ?_
  refine G.iconst C 0 dX0_enterOwnHole_13 (by decide) ?_
  refine G.aaldH C hi 11 (by unfold vp_in; decide) (by decide) dX0_enterOwnHole_14 ?_
  refine G.ildn3 C dX0_enterOwnHole_15 ?_
  refine G.ialdU C (n := 24) (j := 11) (d0 := _) (gN_c hi rfl) (gV_c hi (by omega)) (by first | assumption | exact vp_in_nI (by omega) (by omega) | (unfold vp_in; decide)) rfl dX0_enterOwnHole_16 ?_
  refine G.ist4 C dX0_enterOwnHole_17 (by omega) rfl ?_
  refine G.aldn0 C dX0_enterOwnHole_19 ?_
  refine G.ild4 C dX0_enterOwnHole_20 ?_
  refine G.callVI1 C (k_X0_exists l hi) (cwV 1 C.1.2.2.2.2 gX0_enterOwnHole_X0_exists rfl rfl rfl (by decide +kernel) ⟨Nat.le_of_ble_eq_true rfl, Nat.le_of_ble_eq_true rfl⟩) (gO_c hi) rfl (Nat.le_of_ble_eq_true rfl) dX0_enterOwnHole_22 ?_
  refine G.if_eqB C 50 dX0_enterOwnHole_25 (by decide) (fun h25 => ?_) (fun h25 => ?_)
  · refine G.aldn0 C dX0_enterOwnHole_50 ?_
    refine G.ildn1 C dX0_enterOwnHole_51 ?_
    refine G.ildn3 C dX0_enterOwnHole_52 ?_
    refine G.callVV2 C (k_X0_sit l hi hx (by first | exact cSz_W (by decide) hz | exact hz)) (cwV 2 C.1.2.2.2.2 gX0_enterOwnHole_X0_sit rfl rfl rfl (by decide +kernel) ⟨Nat.le_of_ble_eq_true rfl, Nat.le_of_ble_eq_true rfl⟩) (gO_c hi) rfl (Nat.le_of_ble_eq_true rfl) dX0_enterOwnHole_53 ?_
    refine G.iconst C (-1) dX0_enterOwnHole_56 (by decide) ?_
    exact G.iret C hlk hrt dX0_enterOwnHole_57 (by simp [cEnter, *]) (by intro H h; simpa [cEnter, *] using h)
  · refine G.ildn2 C dX0_enterOwnHole_28 ?_
    refine G.if_eqB C 39 dX0_enterOwnHole_29 (by decide) (fun h29 => ?_) (fun h29 => ?_)
    · refine G.aldn0 C dX0_enterOwnHole_39 ?_
      refine G.getC C hi hinX0 0 (by decide) rfl (C.1.2.2.2.2 (.fieldLink RX0 11 RX0 "doves" "[[I") (by decide +kernel)) rfl dX0_enterOwnHole_40 ?_
      refine G.iconst C 2 dX0_enterOwnHole_43 (by decide) ?_
      refine G.aaldD C hi 4 (by unfold vp_in; decide) (by decide) dX0_enterOwnHole_44 ?_
      refine G.ild4 C dX0_enterOwnHole_45 ?_
      refine G.bipush C 24 dX0_enterOwnHole_47 (by decide) ?_
      refine G.iastU C (n := 16) (j := 4) (d0 := _) (gN_c hi rfl) (gV_c hi (by omega)) (cEx_in h25) rfl dX0_enterOwnHole_49 ?_
      refine G.aldn0 C dX0_enterOwnHole_50 ?_
      refine G.ildn1 C dX0_enterOwnHole_51 ?_
      refine G.ildn3 C dX0_enterOwnHole_52 ?_
      refine G.callVV2 C (k_X0_sit l hi hx (by first | exact cSz_W (by decide) hz | exact hz)) (cwV 2 C.1.2.2.2.2 gX0_enterOwnHole_X0_sit rfl rfl rfl (by decide +kernel) ⟨Nat.le_of_ble_eq_true rfl, Nat.le_of_ble_eq_true rfl⟩) (gO_c hi) rfl (Nat.le_of_ble_eq_true rfl) dX0_enterOwnHole_53 ?_
      refine G.iconst C (-1) dX0_enterOwnHole_56 (by decide) ?_
      exact G.iret C hlk hrt dX0_enterOwnHole_57 (by simp [cEnter, *]) (by intro H h; simpa [cEnter, *] using h)
    · refine G.aldn0 C dX0_enterOwnHole_32 ?_
      refine G.ildn3 C dX0_enterOwnHole_33 ?_
      refine G.ildn1 C dX0_enterOwnHole_34 ?_
      refine G.callVI2 C (k_X0_shiftFrom l hi ho hx (cEx_in h25) hz) (cwV 2 C.1.2.2.2.2 gX0_enterOwnHole_X0_shiftFrom rfl rfl rfl (by decide +kernel) ⟨Nat.le_of_ble_eq_true rfl, Nat.le_of_ble_eq_true rfl⟩) (gO_c hi) rfl (Nat.le_of_ble_eq_true rfl) dX0_enterOwnHole_35 ?_
      exact G.iret C hlk hrt dX0_enterOwnHole_38 (by simp [cEnter, *]) (by intro H h; simpa [cEnter, *] using h)
set_option maxRecDepth 100000 in
set_option maxHeartbeats 4000000 in
theorem k_X0_firstFreeFor_65 (l : Launch) {E : gEn} {σ : gSt} {π : Nat → Nat} {o : Int64} {i : Nat} (hi : i < 9) {c : cSt} {x r : Int32} (hx : vp_in x 16) (hr : r = cFreeL c x 24 0) {p : Program} {e : Env} {s : State} {m : MethodId} {args : Array Value} {below : List Frame} {meth : Method} {cd : Code} (C : gCx p s m cd cX0_firstFreeFor 6 RX0 wsX0_firstFreeFor args E (gA E) ({ frames := 3, cells := 0, slots := 0, locals := 62 } : Room) 0 0) (hrt : meth.sig.returnType = (some .int)) (hlk : meth.locks = false) : G p l e ({ frames := 3, cells := 0, slots := 0, locals := 62 } : Room) s m args below meth cd 6 0 0 (gA E) (gQI below args s (r) E (gU σ i c) π o) E (gU σ i c) π o 65 [some (.ref (E.2.1 i 0)), some (.int x), none, none, none, none] [] := by
  have hinX0 : ∀ w ∈ wsX00, w ∈ wsX0_firstFreeFor := by decide +kernel
  refine G.iconst C 0 dX0_firstFreeFor_65 (by decide) ?_
  refine G.ist4 C dX0_firstFreeFor_66 (by omega) rfl ?_
  have L68 : ∀ (n k : Nat), k + n = 24 → cFreeL c x 24 0 = cFreeL c x n k → G p l e ({ frames := 3, cells := 0, slots := 0, locals := 62 } : Room) s m args below meth cd 6 0 0 (gA E) (gQI below args s (r) E (gU σ i c) π o) E (gU σ i c) π o 68 [some (.ref (E.2.1 i 0)), some (.int x), none, none, some (.int (nI k)), none] [] := by
    intro n
    induction n with
    | zero =>
      intro k hk  hq0
      obtain rfl : k = 24 := by omega
      refine G.ild4 C dX0_firstFreeFor_68 ?_
      refine G.bipush C 24 dX0_firstFreeFor_70 (by decide) ?_
      refine G.icmp_ge C 109 dX0_firstFreeFor_72 (by decide) (fun _ => ?_) (fun h => absurd (nI_le (a := 24) (b := 24) (by omega) (by decide)) h)
      refine G.iconst C (-1) dX0_firstFreeFor_109 (by decide) ?_
      exact G.iret C hlk hrt dX0_firstFreeFor_110 (by rw [hr, hq0]; rfl) (by exact fun _ h => h)
    | succ n ih =>
      intro k hk  hq0
      have hk2 : k < 24 := by omega
      refine G.ild4 C dX0_firstFreeFor_68 ?_
      refine G.bipush C 24 dX0_firstFreeFor_70 (by decide) ?_
      refine G.icmp_ge C 109 dX0_firstFreeFor_72 (by decide) (fun h => absurd h (nI_ge (b := 24) hk2 (by decide))) (fun _ => ?_)
      refine G.aldn0 C dX0_firstFreeFor_75 ?_
      refine G.getC C hi hinX0 0 (by decide) rfl (C.1.2.2.2.2 (.fieldLink RX0 11 RX0 "doves" "[[I") (by decide +kernel)) rfl dX0_firstFreeFor_76 ?_
      refine G.iconst C 0 dX0_firstFreeFor_79 (by decide) ?_
      refine G.aaldD C hi 2 (by unfold vp_in; decide) (by decide) dX0_firstFreeFor_80 ?_
      refine G.ildn1 C dX0_firstFreeFor_81 ?_
      refine G.ialdU C (n := 16) (j := 2) (d0 := _) (gN_c hi rfl) (gV_c hi (by omega)) (by first | assumption | exact vp_in_nI (by omega) (by omega) | (unfold vp_in; decide)) rfl dX0_firstFreeFor_82 ?_
      refine G.ild4 C dX0_firstFreeFor_83 ?_
      refine G.iadd C dX0_firstFreeFor_85 ?_
      refine G.bipush C 24 dX0_firstFreeFor_86 (by decide) ?_
      refine G.irem C dX0_firstFreeFor_88 (by decide) ?_
      refine G.topI (cHk c x (nI k)) rfl ?_
      refine G.ist5 C dX0_firstFreeFor_89 (by omega) rfl ?_
      refine G.aldn0 C dX0_firstFreeFor_91 ?_
      refine G.ild5 C dX0_firstFreeFor_92 ?_
      refine G.callVI1 C (k_X0_isFree l hi) (cwV 1 C.1.2.2.2.2 gX0_firstFreeFor_X0_isFree rfl rfl rfl (by decide +kernel) ⟨Nat.le_of_ble_eq_true rfl, Nat.le_of_ble_eq_true rfl⟩) (gO_c hi) rfl (Nat.le_of_ble_eq_true rfl) dX0_firstFreeFor_94 ?_
      refine G.if_eqB C 103 dX0_firstFreeFor_97 (by decide) (fun h97 => ?_) (fun h97 => ?_)
      · refine G.iincN4 C dX0_firstFreeFor_103 (by omega) rfl ?_
        refine G.goto C 68 dX0_firstFreeFor_106 (by decide) ?_
        exact G.back (ih (k + 1) (by omega) (by rw [hq0]; simp [cFreeL, *])) rfl ⟨(by first | rfl | simp), (by first | rfl | simp), (by first | rfl | simp), trivial⟩
      · refine G.ild5 C dX0_firstFreeFor_100 ?_
        exact G.iret C hlk hrt dX0_firstFreeFor_102 (by rw [hr, hq0]; simp [cFreeL, *]) (by exact fun _ h => h)
  exact G.back (L68 24 0 rfl rfl) rfl ⟨(by first | rfl | simp), (by first | rfl | simp), (by first | rfl | simp), trivial⟩
set_option maxRecDepth 100000 in
set_option maxHeartbeats 4000000 in
theorem k_X0_firstFreeFor (l : Launch) {E : gEn} {σ : gSt} {π : Nat → Nat} {o : Int64} {i : Nat} (hi : i < 9) {c : Nat → Nat → Int32} {x : Int32} (hx : vp_in x 16) : CtI l yX0_firstFreeFor wsX0_firstFreeFor ({ frames := 3, cells := 0, slots := 0, locals := 62 } : Room) E [.ref (E.2.1 i 0), .int x] (gU σ i c) π o (cFirst c x) (gU σ i c) π o := by
  refine CtI.of (cc := cX0_firstFreeFor) (own := RX0) (maxL := 6) (ret := (some .int)) [some (.ref (E.2.1 i 0)), some (.int x), none, none, none, none] (by decide) rfl rfl (Nat.le_of_ble_eq_true rfl) rfl ?_
  intro p e s m args below meth cd C hrt hlk
  have hinX0 : ∀ w ∈ wsX00, w ∈ wsX0_firstFreeFor := by decide +kernel
  refine G.aldn0 C dX0_firstFreeFor_0 ?_
  refine G.getC C hi hinX0 0 (by decide) rfl (C.1.2.2.2.2 (.fieldLink RX0 11 RX0 "doves" "[[I") (by decide +kernel)) rfl dX0_firstFreeFor_1 ?_
  refine G.iconst C 3 dX0_firstFreeFor_4 (by decide) ?_
  refine G.aaldD C hi 5 (by unfold vp_in; decide) (by decide) dX0_firstFreeFor_5 ?_
  refine G.ildn1 C dX0_firstFreeFor_6 ?_
  refine G.ialdU C (n := 16) (j := 5) (d0 := _) (gN_c hi rfl) (gV_c hi (by omega)) (by first | assumption | exact vp_in_nI (by omega) (by omega) | (unfold vp_in; decide)) rfl dX0_firstFreeFor_7 ?_
  refine G.istn2 C dX0_firstFreeFor_8 (by omega) rfl ?_
  refine G.aldn0 C dX0_firstFreeFor_9 ?_
  refine G.ildn2 C dX0_firstFreeFor_10 ?_
  refine G.callVI1 C (k_X0_exists l hi) (cwV 1 C.1.2.2.2.2 gX0_firstFreeFor_X0_exists rfl rfl rfl (by decide +kernel) ⟨Nat.le_of_ble_eq_true rfl, Nat.le_of_ble_eq_true rfl⟩) (gO_c hi) rfl (Nat.le_of_ble_eq_true rfl) dX0_firstFreeFor_11 ?_
  refine G.if_eqB C 28 dX0_firstFreeFor_14 (by decide) (fun h14 => ?_) (fun h14 => ?_)
  · refine G.iconst C (-1) dX0_firstFreeFor_28 (by decide) ?_
    refine G.istn3 C dX0_firstFreeFor_29 (by omega) rfl ?_
    refine G.ildn3 C dX0_firstFreeFor_30 ?_
    refine G.callSNI1 C (k_X3_isHole l) ⟨va_cnB 1 C.1.2.2.2.2 gX0_firstFreeFor_X3_isHole_n59 rfl rfl rfl (va_Nw_isHole C.2.1) (C.1.2.2.2.2 (.initialized RX3) (by decide +kernel)) (by decide +kernel) ⟨Nat.le_of_ble_eq_true rfl, Nat.le_of_ble_eq_true rfl⟩, (C.1.2.2.2.2 (.static yX3_isHole) (by decide +kernel)), trivial⟩ (Nat.le_of_ble_eq_true rfl) dX0_firstFreeFor_31 ?_
    refine G.if_eqB C 65 dX0_firstFreeFor_34 (by decide) (fun h34 => ?_) (fun h34 => ?_)
    · refine G.less (gSub_ok [some (.ref (E.2.1 i 0)), some (.int x), none, none, none, none] _ ⟨rfl, rfl, trivial⟩) ?_
      exact k_X0_firstFreeFor_65 l hi hx (by first | (exfalso; revert h34; decide) | simp [cFirst, cMP, *]) C hrt hlk
    · refine G.aldn0 C dX0_firstFreeFor_37 ?_
      refine G.ildn3 C dX0_firstFreeFor_38 ?_
      refine G.iconst C 1 dX0_firstFreeFor_39 (by decide) ?_
      refine G.isub C dX0_firstFreeFor_40 ?_
      refine G.callVI1 C (k_X0_isFree l hi) (cwV 1 C.1.2.2.2.2 gX0_firstFreeFor_X0_isFree rfl rfl rfl (by decide +kernel) ⟨Nat.le_of_ble_eq_true rfl, Nat.le_of_ble_eq_true rfl⟩) (gO_c hi) rfl (Nat.le_of_ble_eq_true rfl) dX0_firstFreeFor_41 ?_
      refine G.if_eqB C 51 dX0_firstFreeFor_44 (by decide) (fun h44 => ?_) (fun h44 => ?_)
      · refine G.aldn0 C dX0_firstFreeFor_51 ?_
        refine G.ildn3 C dX0_firstFreeFor_52 ?_
        refine G.iconst C 1 dX0_firstFreeFor_53 (by decide) ?_
        refine G.iadd C dX0_firstFreeFor_54 ?_
        refine G.callVI1 C (k_X0_isFree l hi) (cwV 1 C.1.2.2.2.2 gX0_firstFreeFor_X0_isFree rfl rfl rfl (by decide +kernel) ⟨Nat.le_of_ble_eq_true rfl, Nat.le_of_ble_eq_true rfl⟩) (gO_c hi) rfl (Nat.le_of_ble_eq_true rfl) dX0_firstFreeFor_55 ?_
        refine G.if_eqB C 65 dX0_firstFreeFor_58 (by decide) (fun h58 => ?_) (fun h58 => ?_)
        · refine G.less (gSub_ok [some (.ref (E.2.1 i 0)), some (.int x), none, none, none, none] _ ⟨rfl, rfl, trivial⟩) ?_
          exact k_X0_firstFreeFor_65 l hi hx (by first | (exfalso; revert h34; decide) | simp [cFirst, cMP, *]) C hrt hlk
        · refine G.ildn3 C dX0_firstFreeFor_61 ?_
          refine G.iconst C 1 dX0_firstFreeFor_62 (by decide) ?_
          refine G.iadd C dX0_firstFreeFor_63 ?_
          exact G.iret C hlk hrt dX0_firstFreeFor_64 (by first | (exfalso; revert h34; decide) | simp [cFirst, cMP, *]) (by exact fun _ h => h)
      · refine G.ildn3 C dX0_firstFreeFor_47 ?_
        refine G.iconst C 1 dX0_firstFreeFor_48 (by decide) ?_
        refine G.isub C dX0_firstFreeFor_49 ?_
        exact G.iret C hlk hrt dX0_firstFreeFor_50 (by first | (exfalso; revert h34; decide) | simp [cFirst, cMP, *]) (by exact fun _ h => h)
  · refine G.aldn0 C dX0_firstFreeFor_17 ?_
    refine G.getC C hi hinX0 0 (by decide) rfl (C.1.2.2.2.2 (.fieldLink RX0 11 RX0 "doves" "[[I") (by decide +kernel)) rfl dX0_firstFreeFor_18 ?_
    refine G.iconst C 2 dX0_firstFreeFor_21 (by decide) ?_
    refine G.aaldD C hi 4 (by unfold vp_in; decide) (by decide) dX0_firstFreeFor_22 ?_
    refine G.ildn2 C dX0_firstFreeFor_23 ?_
    refine G.ialdU C (n := 16) (j := 4) (d0 := _) (gN_c hi rfl) (gV_c hi (by omega)) (cEx_in h14) rfl dX0_firstFreeFor_24 ?_
    refine G.goto C 29 dX0_firstFreeFor_25 (by decide) ?_
    refine G.istn3 C dX0_firstFreeFor_29 (by omega) rfl ?_
    refine G.ildn3 C dX0_firstFreeFor_30 ?_
    refine G.callSNI1 C (k_X3_isHole l) ⟨va_cnB 1 C.1.2.2.2.2 gX0_firstFreeFor_X3_isHole_n59 rfl rfl rfl (va_Nw_isHole C.2.1) (C.1.2.2.2.2 (.initialized RX3) (by decide +kernel)) (by decide +kernel) ⟨Nat.le_of_ble_eq_true rfl, Nat.le_of_ble_eq_true rfl⟩, (C.1.2.2.2.2 (.static yX3_isHole) (by decide +kernel)), trivial⟩ (Nat.le_of_ble_eq_true rfl) dX0_firstFreeFor_31 ?_
    refine G.if_eqB C 65 dX0_firstFreeFor_34 (by decide) (fun h34 => ?_) (fun h34 => ?_)
    · refine G.less (gSub_ok [some (.ref (E.2.1 i 0)), some (.int x), none, none, none, none] _ ⟨rfl, rfl, trivial⟩) ?_
      exact k_X0_firstFreeFor_65 l hi hx (by first | (exfalso; revert h34; decide) | simp [cFirst, cMP, *]) C hrt hlk
    · refine G.aldn0 C dX0_firstFreeFor_37 ?_
      refine G.ildn3 C dX0_firstFreeFor_38 ?_
      refine G.iconst C 1 dX0_firstFreeFor_39 (by decide) ?_
      refine G.isub C dX0_firstFreeFor_40 ?_
      refine G.callVI1 C (k_X0_isFree l hi) (cwV 1 C.1.2.2.2.2 gX0_firstFreeFor_X0_isFree rfl rfl rfl (by decide +kernel) ⟨Nat.le_of_ble_eq_true rfl, Nat.le_of_ble_eq_true rfl⟩) (gO_c hi) rfl (Nat.le_of_ble_eq_true rfl) dX0_firstFreeFor_41 ?_
      refine G.if_eqB C 51 dX0_firstFreeFor_44 (by decide) (fun h44 => ?_) (fun h44 => ?_)
      · refine G.aldn0 C dX0_firstFreeFor_51 ?_
        refine G.ildn3 C dX0_firstFreeFor_52 ?_
        refine G.iconst C 1 dX0_firstFreeFor_53 (by decide) ?_
        refine G.iadd C dX0_firstFreeFor_54 ?_
        refine G.callVI1 C (k_X0_isFree l hi) (cwV 1 C.1.2.2.2.2 gX0_firstFreeFor_X0_isFree rfl rfl rfl (by decide +kernel) ⟨Nat.le_of_ble_eq_true rfl, Nat.le_of_ble_eq_true rfl⟩) (gO_c hi) rfl (Nat.le_of_ble_eq_true rfl) dX0_firstFreeFor_55 ?_
        refine G.if_eqB C 65 dX0_firstFreeFor_58 (by decide) (fun h58 => ?_) (fun h58 => ?_)
        · refine G.less (gSub_ok [some (.ref (E.2.1 i 0)), some (.int x), none, none, none, none] _ ⟨rfl, rfl, trivial⟩) ?_
          exact k_X0_firstFreeFor_65 l hi hx (by first | (exfalso; revert h34; decide) | simp [cFirst, cMP, *]) C hrt hlk
        · refine G.ildn3 C dX0_firstFreeFor_61 ?_
          refine G.iconst C 1 dX0_firstFreeFor_62 (by decide) ?_
          refine G.iadd C dX0_firstFreeFor_63 ?_
          exact G.iret C hlk hrt dX0_firstFreeFor_64 (by first | (exfalso; revert h34; decide) | simp [cFirst, cMP, *]) (by exact fun _ h => h)
      · refine G.ildn3 C dX0_firstFreeFor_47 ?_
        refine G.iconst C 1 dX0_firstFreeFor_48 (by decide) ?_
        refine G.isub C dX0_firstFreeFor_49 ?_
        exact G.iret C hlk hrt dX0_firstFreeFor_50 (by first | (exfalso; revert h34; decide) | simp [cFirst, cMP, *]) (by exact fun _ h => h)
set_option maxRecDepth 100000 in
set_option maxHeartbeats 4000000 in
theorem k_X0_settle (l : Launch) {E : gEn} {σ : gSt} {π : Nat → Nat} {o : Int64} {i : Nat} (hi : i < 9) {c : Nat → Nat → Int32} {x : Int32} {b : Bool} (hx : vp_in x 16) (hz : cSz c) : CtI l yX0_settle wsX0_settle ({ frames := 4, cells := 0, slots := 0, locals := 87 } : Room) E [.ref (E.2.1 i 0), .int x, .int (bI b)] (gU σ i c) π o ((cSettle c x b).1) (gU σ i ((cSettle c x b).2)) π o := by
  refine CtI.of (cc := cX0_settle) (own := RX0) (maxL := 6) (ret := (some .int)) [some (.ref (E.2.1 i 0)), some (.int x), some (.int (bI b)), none, none, none] (by decide) rfl rfl (Nat.le_of_ble_eq_true rfl) rfl ?_
  intro p e s m args below meth cd C hrt hlk
  have hinX0 : ∀ w ∈ wsX00, w ∈ wsX0_settle := by decide +kernel
  have hinX2 : ∀ w ∈ wsX20, w ∈ wsX0_settle := by decide +kernel
  refine G.aldn0 C dX0_settle_0 ?_
  refine G.ildn1 C dX0_settle_1 ?_
  refine G.callVI1 C (k_X0_firstFreeFor l hi (by assumption)) (cwV 1 C.1.2.2.2.2 gX0_settle_X0_firstFreeFor rfl rfl rfl (by decide +kernel) ⟨Nat.le_of_ble_eq_true rfl, Nat.le_of_ble_eq_true rfl⟩) (gO_c hi) rfl (Nat.le_of_ble_eq_true rfl) dX0_settle_2 ?_
  refine G.istn3 C dX0_settle_5 (by omega) rfl ?_
  refine G.ildn3 C dX0_settle_6 ?_
  refine G.iconst C (-1) dX0_settle_7 (by decide) ?_
  refine G.icmp_eq C 19 dX0_settle_8 (by decide) (fun h8 => ?_) (fun h8 => ?_)
  · refine G.aldn0 C dX0_settle_19 ?_
    refine G.getC C hi hinX0 0 (by decide) rfl (C.1.2.2.2.2 (.fieldLink RX0 11 RX0 "doves" "[[I") (by decide +kernel)) rfl dX0_settle_20 ?_
    refine G.iconst C 0 dX0_settle_23 (by decide) ?_
    refine G.aaldD C hi 2 (by unfold vp_in; decide) (by decide) dX0_settle_24 ?_
    refine G.ildn1 C dX0_settle_25 ?_
    refine G.ialdU C (n := 16) (j := 2) (d0 := _) (gN_c hi rfl) (gV_c hi (by omega)) (by first | assumption | exact vp_in_nI (by omega) (by omega) | (unfold vp_in; decide)) rfl dX0_settle_26 ?_
    refine G.iconst C 1 dX0_settle_27 (by decide) ?_
    refine G.iadd C dX0_settle_28 ?_
    refine G.bipush C 24 dX0_settle_29 (by decide) ?_
    refine G.irem C dX0_settle_31 (by decide) ?_
    refine G.topI (cHk c x 1) rfl ?_
    refine G.ist4 C dX0_settle_32 (by omega) rfl ?_
    refine G.ildn2 C dX0_settle_34 ?_
    refine G.if_eqB C 95 dX0_settle_35 (by decide) (fun h35 => ?_) (fun h35 => ?_)
    · refine G.aldn0 C dX0_settle_95 ?_
      refine G.ildn1 C dX0_settle_96 ?_
      refine G.bipush C 24 dX0_settle_97 (by decide) ?_
      refine G.callVV2 C (k_X0_sit l hi hx hz) (cwV 2 C.1.2.2.2.2 gX0_settle_X0_sit rfl rfl rfl (by decide +kernel) ⟨Nat.le_of_ble_eq_true rfl, Nat.le_of_ble_eq_true rfl⟩) (gO_c hi) rfl (Nat.le_of_ble_eq_true rfl) dX0_settle_99 ?_
      refine G.iconst C (-1) dX0_settle_102 (by decide) ?_
      exact G.iret C hlk hrt dX0_settle_103 (by simp [cSettle, *]) (by intro H h; simpa [cSettle, *] using h)
    · refine G.aldn0 C dX0_settle_38 ?_
      refine G.ild4 C dX0_settle_39 ?_
      refine G.callVI1 C (k_X0_isOpen l hi) (cwV 1 C.1.2.2.2.2 gX0_settle_X0_isOpen rfl rfl rfl (by decide +kernel) ⟨Nat.le_of_ble_eq_true rfl, Nat.le_of_ble_eq_true rfl⟩) (gO_c hi) rfl (Nat.le_of_ble_eq_true rfl) dX0_settle_41 ?_
      refine G.if_eqB C 95 dX0_settle_44 (by decide) (fun h44 => ?_) (fun h44 => ?_)
      · refine G.aldn0 C dX0_settle_95 ?_
        refine G.ildn1 C dX0_settle_96 ?_
        refine G.bipush C 24 dX0_settle_97 (by decide) ?_
        refine G.callVV2 C (k_X0_sit l hi hx hz) (cwV 2 C.1.2.2.2.2 gX0_settle_X0_sit rfl rfl rfl (by decide +kernel) ⟨Nat.le_of_ble_eq_true rfl, Nat.le_of_ble_eq_true rfl⟩) (gO_c hi) rfl (Nat.le_of_ble_eq_true rfl) dX0_settle_99 ?_
        refine G.iconst C (-1) dX0_settle_102 (by decide) ?_
        exact G.iret C hlk hrt dX0_settle_103 (by simp [cSettle, *]) (by intro H h; simpa [cSettle, *] using h)
      · refine G.aldn0 C dX0_settle_47 ?_
        refine G.getC C hi hinX0 1 (by decide) rfl (C.1.2.2.2.2 (.fieldLink RX0 16 RX0 "holes" "[[I") (by decide +kernel)) rfl dX0_settle_48 ?_
        refine G.iconst C 0 dX0_settle_51 (by decide) ?_
        refine G.aaldH C hi 11 (by unfold vp_in; decide) (by decide) dX0_settle_52 ?_
        refine G.ild4 C dX0_settle_53 ?_
        refine G.ialdU C (n := 24) (j := 11) (d0 := _) (gN_c hi rfl) (gV_c hi (by omega)) (cOpen_in h44) rfl dX0_settle_55 ?_
        refine G.ist5 C dX0_settle_56 (by omega) rfl ?_
        refine G.aldn0 C dX0_settle_58 ?_
        refine G.ild5 C dX0_settle_59 ?_
        refine G.callVI1 C (k_X0_exists l hi) (cwV 1 C.1.2.2.2.2 gX0_settle_X0_exists rfl rfl rfl (by decide +kernel) ⟨Nat.le_of_ble_eq_true rfl, Nat.le_of_ble_eq_true rfl⟩) (gO_c hi) rfl (Nat.le_of_ble_eq_true rfl) dX0_settle_61 ?_
        refine G.if_eqB C 95 dX0_settle_64 (by decide) (fun h64 => ?_) (fun h64 => ?_)
        · refine G.aldn0 C dX0_settle_95 ?_
          refine G.ildn1 C dX0_settle_96 ?_
          refine G.bipush C 24 dX0_settle_97 (by decide) ?_
          refine G.callVV2 C (k_X0_sit l hi hx hz) (cwV 2 C.1.2.2.2.2 gX0_settle_X0_sit rfl rfl rfl (by decide +kernel) ⟨Nat.le_of_ble_eq_true rfl, Nat.le_of_ble_eq_true rfl⟩) (gO_c hi) rfl (Nat.le_of_ble_eq_true rfl) dX0_settle_99 ?_
          refine G.iconst C (-1) dX0_settle_102 (by decide) ?_
          exact G.iret C hlk hrt dX0_settle_103 (by simp [cSettle, *]) (by intro H h; simpa [cSettle, *] using h)
        · refine G.aldn0 C dX0_settle_67 ?_
          refine G.getC C hi hinX0 0 (by decide) rfl (C.1.2.2.2.2 (.fieldLink RX0 11 RX0 "doves" "[[I") (by decide +kernel)) rfl dX0_settle_68 ?_
          refine G.iconst C 1 dX0_settle_71 (by decide) ?_
          refine G.aaldD C hi 3 (by unfold vp_in; decide) (by decide) dX0_settle_72 ?_
          refine G.ild5 C dX0_settle_73 ?_
          refine G.ialdU C (n := 16) (j := 3) (d0 := _) (gN_c hi rfl) (gV_c hi (by omega)) (cEx_in h64) rfl dX0_settle_75 ?_
          refine G.aldn0 C dX0_settle_76 ?_
          refine G.getC C hi hinX0 0 (by decide) rfl (C.1.2.2.2.2 (.fieldLink RX0 11 RX0 "doves" "[[I") (by decide +kernel)) rfl dX0_settle_77 ?_
          refine G.iconst C 1 dX0_settle_80 (by decide) ?_
          refine G.aaldD C hi 3 (by unfold vp_in; decide) (by decide) dX0_settle_81 ?_
          refine G.ildn1 C dX0_settle_82 ?_
          refine G.ialdU C (n := 16) (j := 3) (d0 := _) (gN_c hi rfl) (gV_c hi (by omega)) (by first | assumption | exact vp_in_nI (by omega) (by omega) | (unfold vp_in; decide)) rfl dX0_settle_83 ?_
          refine G.icmp_ge C 95 dX0_settle_84 (by decide) (fun h84 => ?_) (fun h84 => ?_)
          · refine G.aldn0 C dX0_settle_95 ?_
            refine G.ildn1 C dX0_settle_96 ?_
            refine G.bipush C 24 dX0_settle_97 (by decide) ?_
            refine G.callVV2 C (k_X0_sit l hi hx hz) (cwV 2 C.1.2.2.2.2 gX0_settle_X0_sit rfl rfl rfl (by decide +kernel) ⟨Nat.le_of_ble_eq_true rfl, Nat.le_of_ble_eq_true rfl⟩) (gO_c hi) rfl (Nat.le_of_ble_eq_true rfl) dX0_settle_99 ?_
            refine G.iconst C (-1) dX0_settle_102 (by decide) ?_
            exact G.iret C hlk hrt dX0_settle_103 (by simp [cSettle, *]) (by intro H h; simpa [cSettle, *] using h)
          · refine G.aldn0 C dX0_settle_87 ?_
            refine G.ild4 C dX0_settle_88 ?_
            refine G.ildn1 C dX0_settle_90 ?_
            refine G.callVI2 C (k_X0_shiftFrom l hi (cOpen_in h44) hx (cEx_in h64) hz) (cwV 2 C.1.2.2.2.2 gX0_settle_X0_shiftFrom rfl rfl rfl (by decide +kernel) ⟨Nat.le_of_ble_eq_true rfl, Nat.le_of_ble_eq_true rfl⟩) (gO_c hi) rfl (Nat.le_of_ble_eq_true rfl) dX0_settle_91 ?_
            exact G.iret C hlk hrt dX0_settle_94 (by simp [cSettle, *]) (by intro H h; simpa [cSettle, *] using h)
  · refine G.aldn0 C dX0_settle_11 ?_
    refine G.ildn1 C dX0_settle_12 ?_
    refine G.ildn3 C dX0_settle_13 ?_
    refine G.callVV2 C (k_X0_sit l hi hx hz) (cwV 2 C.1.2.2.2.2 gX0_settle_X0_sit rfl rfl rfl (by decide +kernel) ⟨Nat.le_of_ble_eq_true rfl, Nat.le_of_ble_eq_true rfl⟩) (gO_c hi) rfl (Nat.le_of_ble_eq_true rfl) dX0_settle_14 ?_
    refine G.iconst C (-1) dX0_settle_17 (by decide) ?_
    exact G.iret C hlk hrt dX0_settle_18 (by simp [cSettle, *]) (by intro H h; simpa [cSettle, *] using h)
set_option maxRecDepth 100000 in
set_option maxHeartbeats 4000000 in
theorem k_X0_comeHome_109 (l : Launch) {E : gEn} {σ : gSt} {π : Nat → Nat} {o : Int64} {i : Nat} (hi : i < 9) {c1 c3 : cSt} {x t sh mo y r : Int32} (hz : cSz c1) (h3 : c3 = cRun mo 25 c1 y) (hr : r = c3 0 8 - sh) {p : Program} {e : Env} {s : State} {m : MethodId} {args : Array Value} {below : List Frame} {meth : Method} {cd : Code} (C : gCx p s m cd cX0_comeHome 8 RX0 wsX0_comeHome args E (gA E) ({ frames := 5, cells := 0, slots := 0, locals := 112 } : Room) 0 0) (hrt : meth.sig.returnType = (some .int)) (hlk : meth.locks = false) : G p l e ({ frames := 5, cells := 0, slots := 0, locals := 112 } : Room) s m args below meth cd 8 0 0 (gA E) (gQI below args s (r) E (gU σ i c3) π o) E (gU σ i c1) π o 109 [some (.ref (E.2.1 i 0)), some (.int x), some (.int t), some (.int sh), some (.int mo), none, some (.int y), none] [] := by
  have hinX0 : ∀ w ∈ wsX00, w ∈ wsX0_comeHome := by decide +kernel
  have hinX2 : ∀ w ∈ wsX20, w ∈ wsX0_comeHome := by decide +kernel
  refine G.iconst C 0 dX0_comeHome_109 (by decide) ?_
  refine G.ist7 C dX0_comeHome_110 (by omega) rfl ?_
  have L112 : ∀ (n k : Nat), k + n = 25 → ∀ (c2 : cSt) (y2 : Int32), cSz c2 → cRun mo 25 c1 y = cRun mo n c2 y2 → G p l e ({ frames := 5, cells := 0, slots := 0, locals := 112 } : Room) s m args below meth cd 8 0 0 (gA E) (gQI below args s (r) E (gU σ i c3) π o) E (gU σ i c2) π o 112 [some (.ref (E.2.1 i 0)), some (.int x), some (.int t), some (.int sh), some (.int mo), none, some (.int y2), some (.int (nI k))] [] := by
    intro n
    induction n with
    | zero =>
      intro k hk c2 y2 hq0 hq1
      obtain rfl : k = 25 := by omega
      refine G.ild7 C dX0_comeHome_112 ?_
      refine G.bipush C 24 dX0_comeHome_114 (by decide) ?_
      refine G.icmp_gt C 156 dX0_comeHome_116 (by decide) (fun _ => ?_) (fun h => absurd (nI_lt (a := 24) (b := 25) (by omega) (by decide)) h)
      refine G.aldn0 C dX0_comeHome_156 ?_
      refine G.getC C hi hinX0 8 (by decide) rfl (C.1.2.2.2.2 (.fieldLink RX0 53 RX0 "shifts" "I") (by decide +kernel)) rfl dX0_comeHome_157 ?_
      refine G.ildn3 C dX0_comeHome_160 ?_
      refine G.isub C dX0_comeHome_161 ?_
      exact G.iret C hlk hrt dX0_comeHome_162 (by rw [hr, h3, hq1]; first | rfl | simp [cRun, *]) (by intro H h; rw [h3, hq1]; first | exact h | simpa [cRun, *] using h)
    | succ n ih =>
      intro k hk c2 y2 hq0 hq1
      have hk2 : k < 25 := by omega
      refine G.ild7 C dX0_comeHome_112 ?_
      refine G.bipush C 24 dX0_comeHome_114 (by decide) ?_
      refine G.icmp_gt C 156 dX0_comeHome_116 (by decide) (fun h => absurd h (nI_nlt (a := 24) (by omega) (by decide))) (fun _ => ?_)
      refine G.aldn0 C dX0_comeHome_119 ?_
      refine G.ild6 C dX0_comeHome_120 ?_
      refine G.callVI1 C (k_X0_exists l hi) (cwV 1 C.1.2.2.2.2 gX0_comeHome_X0_exists rfl rfl rfl (by decide +kernel) ⟨Nat.le_of_ble_eq_true rfl, Nat.le_of_ble_eq_true rfl⟩) (gO_c hi) rfl (Nat.le_of_ble_eq_true rfl) dX0_comeHome_122 ?_
      refine G.if_eqB C 156 dX0_comeHome_125 (by decide) (fun h125 => ?_) (fun h125 => ?_)
      · refine G.aldn0 C dX0_comeHome_156 ?_
        refine G.getC C hi hinX0 8 (by decide) rfl (C.1.2.2.2.2 (.fieldLink RX0 53 RX0 "shifts" "I") (by decide +kernel)) rfl dX0_comeHome_157 ?_
        refine G.ildn3 C dX0_comeHome_160 ?_
        refine G.isub C dX0_comeHome_161 ?_
        exact G.iret C hlk hrt dX0_comeHome_162 (by rw [hr, h3, hq1]; first | rfl | simp [cRun, *]) (by intro H h; rw [h3, hq1]; first | exact h | simpa [cRun, *] using h)
      · refine G.aldn0 C dX0_comeHome_128 ?_
        refine G.ild6 C dX0_comeHome_129 ?_
        refine G.aldn0 C dX0_comeHome_131 ?_
        refine G.getC C hi hinX0 8 (by decide) rfl (C.1.2.2.2.2 (.fieldLink RX0 53 RX0 "shifts" "I") (by decide +kernel)) rfl dX0_comeHome_132 ?_
        refine G.ild4 C dX0_comeHome_135 ?_
        refine G.icmp_ge C 144 dX0_comeHome_137 (by decide) (fun h137 => ?_) (fun h137 => ?_)
        · refine G.iconst C 0 dX0_comeHome_144 (by decide) ?_
          refine G.callVI2 C (k_X0_settle l hi (b := false) (cEx_in h125) hq0) (cwV 2 C.1.2.2.2.2 gX0_comeHome_X0_settle rfl rfl rfl (by decide +kernel) ⟨Nat.le_of_ble_eq_true rfl, Nat.le_of_ble_eq_true rfl⟩) (gO_c hi) rfl (Nat.le_of_ble_eq_true rfl) dX0_comeHome_145 ?_
          refine G.ist6 C dX0_comeHome_148 (by omega) rfl ?_
          refine G.iincN7 C dX0_comeHome_150 (by omega) rfl ?_
          refine G.goto C 112 dX0_comeHome_153 (by decide) ?_
          exact G.back (ih (k + 1) (by omega) (cSettle c2 y2 (decide (¬ mo ≤ c2 0 8))).2 (cSettle c2 y2 (decide (¬ mo ≤ c2 0 8))).1 (cSz_settle hq0) (by rw [hq1]; simp only [cRun, h125, if_true])) (by simp [h137]) ⟨(by first | rfl | simp [h137]), (by first | rfl | simp [h137]), (by first | rfl | simp [h137]), (by first | rfl | simp [h137]), (by first | rfl | simp [h137]), (by first | rfl | simp [h137]), (by first | rfl | simp [h137]), trivial⟩
        · refine G.iconst C 1 dX0_comeHome_140 (by decide) ?_
          refine G.goto C 145 dX0_comeHome_141 (by decide) ?_
          refine G.callVI2 C (k_X0_settle l hi (b := true) (cEx_in h125) hq0) (cwV 2 C.1.2.2.2.2 gX0_comeHome_X0_settle rfl rfl rfl (by decide +kernel) ⟨Nat.le_of_ble_eq_true rfl, Nat.le_of_ble_eq_true rfl⟩) (gO_c hi) rfl (Nat.le_of_ble_eq_true rfl) dX0_comeHome_145 ?_
          refine G.ist6 C dX0_comeHome_148 (by omega) rfl ?_
          refine G.iincN7 C dX0_comeHome_150 (by omega) rfl ?_
          refine G.goto C 112 dX0_comeHome_153 (by decide) ?_
          exact G.back (ih (k + 1) (by omega) (cSettle c2 y2 (decide (¬ mo ≤ c2 0 8))).2 (cSettle c2 y2 (decide (¬ mo ≤ c2 0 8))).1 (cSz_settle hq0) (by rw [hq1]; simp only [cRun, h125, if_true])) (by simp [h137]) ⟨(by first | rfl | simp [h137]), (by first | rfl | simp [h137]), (by first | rfl | simp [h137]), (by first | rfl | simp [h137]), (by first | rfl | simp [h137]), (by first | rfl | simp [h137]), (by first | rfl | simp [h137]), trivial⟩
  exact G.back (L112 25 0 rfl c1 y hz rfl) rfl ⟨(by first | rfl | simp), (by first | rfl | simp), (by first | rfl | simp), (by first | rfl | simp), (by first | rfl | simp), (by first | rfl | simp), (by first | rfl | simp), trivial⟩
set_option maxRecDepth 100000 in
set_option maxHeartbeats 4000000 in
theorem k_X0_comeHome (l : Launch) {E : gEn} {σ : gSt} {π : Nat → Nat} {o : Int64} {i : Nat} (hi : i < 9) {c : Nat → Nat → Int32} {x t : Int32} (hx : vp_in x 16) : CtI l yX0_comeHome wsX0_comeHome ({ frames := 5, cells := 0, slots := 0, locals := 112 } : Room) E [.ref (E.2.1 i 0), .int x, .int t] (gU σ i c) π o (cComeR c x t) (gU σ i (cCome c x t)) π o := by
  refine CtI.of (cc := cX0_comeHome) (own := RX0) (maxL := 8) (ret := (some .int)) [some (.ref (E.2.1 i 0)), some (.int x), some (.int t), none, none, none, none, none] (by decide) rfl rfl (Nat.le_of_ble_eq_true rfl) rfl ?_
  intro p e s m args below meth cd C hrt hlk
  have hinX0 : ∀ w ∈ wsX00, w ∈ wsX0_comeHome := by decide +kernel
  have hinX2 : ∀ w ∈ wsX20, w ∈ wsX0_comeHome := by decide +kernel
  refine G.aldn0 C dX0_comeHome_0 ?_
  refine G.ildn2 C dX0_comeHome_1 ?_
  refine G.putC (ty := .int) C hi hinX0 7 (by decide) rfl (C.1.2.2.2.2 (.fieldLink RX0 50 RX0 "time" "I") (by decide +kernel)) rfl rfl rfl rfl rfl dX0_comeHome_2 ?_
  refine G.aldn0 C dX0_comeHome_5 ?_
  refine G.getC C hi hinX0 5 (by decide) rfl (C.1.2.2.2.2 (.fieldLink RX0 32 RX0 "way" "LLateDoves$Way;") (by decide +kernel)) rfl dX0_comeHome_6 ?_
  refine G.iconst C 0 dX0_comeHome_9 (by decide) ?_
  refine G.putWN (ty := .int) C hi hinX2 2 (by decide) rfl (by simp [gNst, TX2]) rfl rfl rfl rfl rfl dX0_comeHome_10 ?_
  refine G.aldn0 C dX0_comeHome_13 ?_
  refine G.getC C hi hinX0 8 (by decide) rfl (C.1.2.2.2.2 (.fieldLink RX0 53 RX0 "shifts" "I") (by decide +kernel)) rfl dX0_comeHome_14 ?_
  refine G.topI (c 0 8) rfl ?_
  refine G.istn3 C dX0_comeHome_17 (by omega) rfl ?_
  refine G.aldn0 C dX0_comeHome_18 ?_
  refine G.getC C hi hinX0 8 (by decide) rfl (C.1.2.2.2.2 (.fieldLink RX0 53 RX0 "shifts" "I") (by decide +kernel)) rfl dX0_comeHome_19 ?_
  refine G.topI (c 0 8) rfl ?_
  refine G.aldn0 C dX0_comeHome_22 ?_
  refine G.getC C hi hinX0 2 (by decide) rfl (C.1.2.2.2.2 (.fieldLink RX0 19 RX0 "settings" "[I") (by decide +kernel)) rfl dX0_comeHome_23 ?_
  refine G.iconst C 1 dX0_comeHome_26 (by decide) ?_
  refine G.ialdU C (n := 2) (j := 14) (d0 := 1) (gN_c hi rfl) (gV_c hi (by omega)) (by unfold vp_in; decide) (by decide) dX0_comeHome_27 ?_
  refine G.topI (c 14 1) rfl ?_
  refine G.iadd C dX0_comeHome_28 ?_
  refine G.ist4 C dX0_comeHome_29 (by omega) rfl ?_
  refine G.ildn2 C dX0_comeHome_31 ?_
  refine G.aldn0 C dX0_comeHome_32 ?_
  refine G.getC C hi hinX0 2 (by decide) rfl (C.1.2.2.2.2 (.fieldLink RX0 19 RX0 "settings" "[I") (by decide +kernel)) rfl dX0_comeHome_33 ?_
  refine G.iconst C 0 dX0_comeHome_36 (by decide) ?_
  refine G.ialdU C (n := 2) (j := 14) (d0 := 0) (gN_c hi rfl) (gV_c hi (by omega)) (by unfold vp_in; decide) (by decide) dX0_comeHome_37 ?_
  refine G.topI (c 14 0) rfl ?_
  refine G.icmp_le C 45 dX0_comeHome_38 (by decide) (fun h38 => ?_) (fun h38 => ?_)
  · refine G.iconst C 0 dX0_comeHome_45 (by decide) ?_
    refine G.ist5 C dX0_comeHome_46 (by omega) rfl ?_
    refine G.ild5 C dX0_comeHome_48 ?_
    refine G.if_eq C 65 dX0_comeHome_50 (by decide) (fun _ => ?_) (fun h => absurd (by decide) h)
    refine G.ildn1 C dX0_comeHome_65 ?_
    refine G.ist6 C dX0_comeHome_66 (by omega) rfl ?_
    refine G.ild5 C dX0_comeHome_68 ?_
    refine G.if_ne C 109 dX0_comeHome_70 (by decide) (fun h => absurd rfl h) (fun _ => ?_)
    refine G.aldn0 C dX0_comeHome_73 ?_
    refine G.aldn0 C dX0_comeHome_74 ?_
    refine G.getC C hi hinX0 0 (by decide) rfl (C.1.2.2.2.2 (.fieldLink RX0 11 RX0 "doves" "[[I") (by decide +kernel)) rfl dX0_comeHome_75 ?_
    refine G.iconst C 0 dX0_comeHome_78 (by decide) ?_
    refine G.aaldD C hi 2 (by unfold vp_in; decide) (by decide) dX0_comeHome_79 ?_
    refine G.ildn1 C dX0_comeHome_80 ?_
    refine G.ialdU C (n := 16) (j := 2) (d0 := _) (gN_c hi rfl) (gV_c hi (by omega)) (by first | assumption | exact vp_in_nI (by omega) (by omega) | (unfold vp_in; decide)) rfl dX0_comeHome_81 ?_
    refine G.topI (c 2 (ix x)) rfl ?_
    refine G.callVI1 C (k_X0_isOpen l hi) (cwV 1 C.1.2.2.2.2 gX0_comeHome_X0_isOpen rfl rfl rfl (by decide +kernel) ⟨Nat.le_of_ble_eq_true rfl, Nat.le_of_ble_eq_true rfl⟩) (gO_c hi) rfl (Nat.le_of_ble_eq_true rfl) dX0_comeHome_82 ?_
    refine G.if_eqB C 109 dX0_comeHome_85 (by decide) (fun h85 => ?_) (fun h85 => ?_)
    · refine G.less (gSub_ok [some (.ref (E.2.1 i 0)), some (.int x), some (.int t), some (.int (c 0 8)), some (.int (c 0 8 + c 14 1)), none, some (.int (cCome0 c x t).1), none] _ ⟨rfl, rfl, rfl, rfl, rfl, by simp [cCome0, *], trivial⟩) ?_
      refine G.cast (σ' := gU σ i (cCome0 c x t).2) (k_X0_comeHome_109 l hi (c3 := cCome c x t) cSz_come0 rfl rfl C hrt hlk) (by simp [cCome0, *]) rfl rfl rfl rfl
    · refine G.aldn0 C dX0_comeHome_88 ?_
      refine G.ildn1 C dX0_comeHome_89 ?_
      refine G.aldn0 C dX0_comeHome_90 ?_
      refine G.getC C hi hinX0 8 (by decide) rfl (C.1.2.2.2.2 (.fieldLink RX0 53 RX0 "shifts" "I") (by decide +kernel)) rfl dX0_comeHome_91 ?_
      refine G.topI (c 0 8) rfl ?_
      refine G.ild4 C dX0_comeHome_94 ?_
      refine G.icmp_ge C 103 dX0_comeHome_96 (by decide) (fun h96 => ?_) (fun h96 => ?_)
      · refine G.iconst C 0 dX0_comeHome_103 (by decide) ?_
        refine G.callVI2 C (k_X0_enterOwnHole l hi (b := false) hx (cOpen_in h85) cSz_0) (cwV 2 C.1.2.2.2.2 gX0_comeHome_X0_enterOwnHole rfl rfl rfl (by decide +kernel) ⟨Nat.le_of_ble_eq_true rfl, Nat.le_of_ble_eq_true rfl⟩) (gO_c hi) rfl (Nat.le_of_ble_eq_true rfl) dX0_comeHome_104 ?_
        refine G.ist6 C dX0_comeHome_107 (by omega) rfl ?_
        refine G.less (gSub_ok [some (.ref (E.2.1 i 0)), some (.int x), some (.int t), some (.int (c 0 8)), some (.int (c 0 8 + c 14 1)), none, some (.int (cCome0 c x t).1), none] _ ⟨rfl, rfl, rfl, rfl, rfl, by simp [cCome0, *], trivial⟩) ?_
        refine G.cast (σ' := gU σ i (cCome0 c x t).2) (k_X0_comeHome_109 l hi (c3 := cCome c x t) cSz_come0 rfl rfl C hrt hlk) (by simp [cCome0, *]) rfl rfl rfl rfl
      · refine G.iconst C 1 dX0_comeHome_99 (by decide) ?_
        refine G.goto C 104 dX0_comeHome_100 (by decide) ?_
        refine G.callVI2 C (k_X0_enterOwnHole l hi (b := true) hx (cOpen_in h85) cSz_0) (cwV 2 C.1.2.2.2.2 gX0_comeHome_X0_enterOwnHole rfl rfl rfl (by decide +kernel) ⟨Nat.le_of_ble_eq_true rfl, Nat.le_of_ble_eq_true rfl⟩) (gO_c hi) rfl (Nat.le_of_ble_eq_true rfl) dX0_comeHome_104 ?_
        refine G.ist6 C dX0_comeHome_107 (by omega) rfl ?_
        refine G.less (gSub_ok [some (.ref (E.2.1 i 0)), some (.int x), some (.int t), some (.int (c 0 8)), some (.int (c 0 8 + c 14 1)), none, some (.int (cCome0 c x t).1), none] _ ⟨rfl, rfl, rfl, rfl, rfl, by simp [cCome0, *], trivial⟩) ?_
        refine G.cast (σ' := gU σ i (cCome0 c x t).2) (k_X0_comeHome_109 l hi (c3 := cCome c x t) cSz_come0 rfl rfl C hrt hlk) (by simp [cCome0, *]) rfl rfl rfl rfl
  · refine G.iconst C 1 dX0_comeHome_41 (by decide) ?_
    refine G.goto C 46 dX0_comeHome_42 (by decide) ?_
    refine G.ist5 C dX0_comeHome_46 (by omega) rfl ?_
    refine G.ild5 C dX0_comeHome_48 ?_
    refine G.if_eq C 65 dX0_comeHome_50 (by decide) (fun h => absurd h (by decide)) (fun _ => ?_)
    refine G.aldn0 C dX0_comeHome_53 ?_
    refine G.getC C hi hinX0 0 (by decide) rfl (C.1.2.2.2.2 (.fieldLink RX0 11 RX0 "doves" "[[I") (by decide +kernel)) rfl dX0_comeHome_54 ?_
    refine G.iconst C 4 dX0_comeHome_57 (by decide) ?_
    refine G.aaldD C hi 6 (by unfold vp_in; decide) (by decide) dX0_comeHome_58 ?_
    refine G.ildn1 C dX0_comeHome_59 ?_
    refine G.dup2 C dX0_comeHome_60 rfl rfl ?_
    refine G.ialdU C (n := 16) (j := 6) (d0 := _) (gN_c hi rfl) (gV_c hi (by omega)) (by first | assumption | exact vp_in_nI (by omega) (by omega) | (unfold vp_in; decide)) rfl dX0_comeHome_61 ?_
    refine G.topI (c 6 (ix x)) rfl ?_
    refine G.iconst C 1 dX0_comeHome_62 (by decide) ?_
    refine G.iadd C dX0_comeHome_63 ?_
    refine G.iastU C (n := 16) (j := 6) (d0 := _) (gN_c hi rfl) (gV_c hi (by omega)) (by first | assumption | exact vp_in_nI (by omega) (by omega) | (unfold vp_in; decide)) rfl dX0_comeHome_64 ?_
    refine G.ildn1 C dX0_comeHome_65 ?_
    refine G.ist6 C dX0_comeHome_66 (by omega) rfl ?_
    refine G.ild5 C dX0_comeHome_68 ?_
    refine G.if_ne C 109 dX0_comeHome_70 (by decide) (fun _ => ?_) (fun h => absurd h (by decide))
    refine G.less (gSub_ok [some (.ref (E.2.1 i 0)), some (.int x), some (.int t), some (.int (c 0 8)), some (.int (c 0 8 + c 14 1)), none, some (.int (cCome0 c x t).1), none] _ ⟨rfl, rfl, rfl, rfl, rfl, by simp [cCome0, *], trivial⟩) ?_
    refine G.cast (σ' := gU σ i (cCome0 c x t).2) (k_X0_comeHome_109 l hi (c3 := cCome c x t) cSz_come0 rfl rfl C hrt hlk) (by simp [cCome0, *]) rfl rfl rfl rfl
end
