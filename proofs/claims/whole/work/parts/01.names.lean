-- ===== PART A: goes FIRST, ahead of the names: the tables' words, and 'selects' of the private methods out of them =====
/-- a private method of a class that the tables say can be made, by its rows of tables_1 -/
def lw_okq (q : MethodName × Nat) : Prop := (q.1.cls ≠ "java/lang/invoke/MethodHandle" ∧ q.1.cls ≠ "java/lang/invoke/VarHandle") ∧ Cond.instantiable q.1.cls q.2 ∈ tables_1 ∧ Cond.privateMethod q.1 ∈ tables_1 ∧ Cond.instanceMethod q.1 ∈ tables_1
theorem lw_p0 : lw_okq (⟨"PicnicOfSomebody", "refuse", "(I)I"⟩, 9) := ⟨⟨by decide +kernel, by decide +kernel⟩, List.mem_of_getElem? (i := 12) (by decide +kernel), List.mem_of_getElem? (i := 169) (by decide +kernel), List.mem_of_getElem? (i := 170) (by decide +kernel)⟩
theorem lw_p1 : lw_okq (⟨"PicnicOfSomebody$Text", "placeOfWrongForm", "()I"⟩, 4) := ⟨⟨by decide +kernel, by decide +kernel⟩, List.mem_of_getElem? (i := 94) (by decide +kernel), List.mem_of_getElem? (i := 186) (by decide +kernel), List.mem_of_getElem? (i := 187) (by decide +kernel)⟩
theorem lw_p2 : lw_okq (⟨"PicnicOfSomebody$Text", "comes", "(I)Z"⟩, 4) := ⟨⟨by decide +kernel, by decide +kernel⟩, List.mem_of_getElem? (i := 94) (by decide +kernel), List.mem_of_getElem? (i := 206) (by decide +kernel), List.mem_of_getElem? (i := 207) (by decide +kernel)⟩
theorem lw_p3 : lw_okq (⟨"PicnicOfSomebody$Text", "letterAt", "(I)I"⟩, 4) := ⟨⟨by decide +kernel, by decide +kernel⟩, List.mem_of_getElem? (i := 94) (by decide +kernel), List.mem_of_getElem? (i := 210) (by decide +kernel), List.mem_of_getElem? (i := 211) (by decide +kernel)⟩
theorem lw_p4 : lw_okq (⟨"PicnicOfSomebody$Text", "digit", "(I)I"⟩, 4) := ⟨⟨by decide +kernel, by decide +kernel⟩, List.mem_of_getElem? (i := 94) (by decide +kernel), List.mem_of_getElem? (i := 214) (by decide +kernel), List.mem_of_getElem? (i := 215) (by decide +kernel)⟩
theorem lw_p5 : lw_okq (⟨"PicnicOfSomebody$Text", "twoDigits", "(I)I"⟩, 4) := ⟨⟨by decide +kernel, by decide +kernel⟩, List.mem_of_getElem? (i := 94) (by decide +kernel), List.mem_of_getElem? (i := 218) (by decide +kernel), List.mem_of_getElem? (i := 219) (by decide +kernel)⟩
theorem lw_p6 : lw_okq (⟨"PicnicOfSomebody$Text", "personComes", "(IIII)Z"⟩, 4) := ⟨⟨by decide +kernel, by decide +kernel⟩, List.mem_of_getElem? (i := 94) (by decide +kernel), List.mem_of_getElem? (i := 222) (by decide +kernel), List.mem_of_getElem? (i := 223) (by decide +kernel)⟩
theorem lw_p7 : lw_okq (⟨"PicnicOfSomebody$Text", "depthComes", "(II)Z"⟩, 4) := ⟨⟨by decide +kernel, by decide +kernel⟩, List.mem_of_getElem? (i := 94) (by decide +kernel), List.mem_of_getElem? (i := 235) (by decide +kernel), List.mem_of_getElem? (i := 236) (by decide +kernel)⟩
theorem lw_p8 : lw_okq (⟨"PicnicOfSomebody$Text", "beliefComes", "(II)Z"⟩, 4) := ⟨⟨by decide +kernel, by decide +kernel⟩, List.mem_of_getElem? (i := 94) (by decide +kernel), List.mem_of_getElem? (i := 239) (by decide +kernel), List.mem_of_getElem? (i := 240) (by decide +kernel)⟩
theorem lw_p9 : lw_okq (⟨"PicnicOfSomebody$Text", "seatComes", "(II)Z"⟩, 4) := ⟨⟨by decide +kernel, by decide +kernel⟩, List.mem_of_getElem? (i := 94) (by decide +kernel), List.mem_of_getElem? (i := 243) (by decide +kernel), List.mem_of_getElem? (i := 244) (by decide +kernel)⟩
theorem lw_p10 : lw_okq (⟨"PicnicOfSomebody$Slope", "nextOfKind", "(IIII)I"⟩, 8) := ⟨⟨by decide +kernel, by decide +kernel⟩, List.mem_of_getElem? (i := 20) (by decide +kernel), List.mem_of_getElem? (i := 276) (by decide +kernel), List.mem_of_getElem? (i := 277) (by decide +kernel)⟩
theorem lw_p11 : lw_okq (⟨"PicnicOfSomebody$Slope", "believersAround", "(I)I"⟩, 8) := ⟨⟨by decide +kernel, by decide +kernel⟩, List.mem_of_getElem? (i := 20) (by decide +kernel), List.mem_of_getElem? (i := 283) (by decide +kernel), List.mem_of_getElem? (i := 284) (by decide +kernel)⟩
theorem lw_p12 : lw_okq (⟨"PicnicOfSomebody$Slope", "deepen", "(II)V"⟩, 8) := ⟨⟨by decide +kernel, by decide +kernel⟩, List.mem_of_getElem? (i := 20) (by decide +kernel), List.mem_of_getElem? (i := 287) (by decide +kernel), List.mem_of_getElem? (i := 288) (by decide +kernel)⟩
theorem lw_p13 : lw_okq (⟨"PicnicOfSomebody", "noPerson", "(I)I"⟩, 9) := ⟨⟨by decide +kernel, by decide +kernel⟩, List.mem_of_getElem? (i := 12) (by decide +kernel), List.mem_of_getElem? (i := 324) (by decide +kernel), List.mem_of_getElem? (i := 325) (by decide +kernel)⟩
theorem lw_p14 : lw_okq (⟨"PicnicOfSomebody$Mind", "allBelieve", "()Z"⟩, 2) := ⟨⟨by decide +kernel, by decide +kernel⟩, List.mem_of_getElem? (i := 71) (by decide +kernel), List.mem_of_getElem? (i := 393) (by decide +kernel), List.mem_of_getElem? (i := 394) (by decide +kernel)⟩
theorem lw_p15 : lw_okq (⟨"PicnicOfSomebody$Mind", "isMadeBy", "(II)Z"⟩, 2) := ⟨⟨by decide +kernel, by decide +kernel⟩, List.mem_of_getElem? (i := 71) (by decide +kernel), List.mem_of_getElem? (i := 421) (by decide +kernel), List.mem_of_getElem? (i := 422) (by decide +kernel)⟩
def lw_privs_1 : List (MethodName × Nat) := [(⟨"PicnicOfSomebody", "refuse", "(I)I"⟩, 9), (⟨"PicnicOfSomebody$Text", "placeOfWrongForm", "()I"⟩, 4), (⟨"PicnicOfSomebody$Text", "comes", "(I)Z"⟩, 4), (⟨"PicnicOfSomebody$Text", "letterAt", "(I)I"⟩, 4), (⟨"PicnicOfSomebody$Text", "digit", "(I)I"⟩, 4), (⟨"PicnicOfSomebody$Text", "twoDigits", "(I)I"⟩, 4), (⟨"PicnicOfSomebody$Text", "personComes", "(IIII)Z"⟩, 4), (⟨"PicnicOfSomebody$Text", "depthComes", "(II)Z"⟩, 4), (⟨"PicnicOfSomebody$Text", "beliefComes", "(II)Z"⟩, 4), (⟨"PicnicOfSomebody$Text", "seatComes", "(II)Z"⟩, 4), (⟨"PicnicOfSomebody$Slope", "nextOfKind", "(IIII)I"⟩, 8), (⟨"PicnicOfSomebody$Slope", "believersAround", "(I)I"⟩, 8), (⟨"PicnicOfSomebody$Slope", "deepen", "(II)V"⟩, 8), (⟨"PicnicOfSomebody", "noPerson", "(I)I"⟩, 9), (⟨"PicnicOfSomebody$Mind", "allBelieve", "()Z"⟩, 2), (⟨"PicnicOfSomebody$Mind", "isMadeBy", "(II)Z"⟩, 2)]
theorem lw_r1 : ∀ q ∈ lw_privs_1, lw_okq q := List.forall_mem_cons.mpr ⟨lw_p0, List.forall_mem_cons.mpr ⟨lw_p1, List.forall_mem_cons.mpr ⟨lw_p2, List.forall_mem_cons.mpr ⟨lw_p3, List.forall_mem_cons.mpr ⟨lw_p4, List.forall_mem_cons.mpr ⟨lw_p5, List.forall_mem_cons.mpr ⟨lw_p6, List.forall_mem_cons.mpr ⟨lw_p7, List.forall_mem_cons.mpr ⟨lw_p8, List.forall_mem_cons.mpr ⟨lw_p9, List.forall_mem_cons.mpr ⟨lw_p10, List.forall_mem_cons.mpr ⟨lw_p11, List.forall_mem_cons.mpr ⟨lw_p12, List.forall_mem_cons.mpr ⟨lw_p13, List.forall_mem_cons.mpr ⟨lw_p14, List.forall_mem_cons.mpr ⟨lw_p15, fun _ h => absurd h List.not_mem_nil⟩⟩⟩⟩⟩⟩⟩⟩⟩⟩⟩⟩⟩⟩⟩⟩
theorem lw_p16 : lw_okq (⟨"PicnicOfSomebody$Mind", "believersWithout", "(II)I"⟩, 2) := ⟨⟨by decide +kernel, by decide +kernel⟩, List.mem_of_getElem? (i := 71) (by decide +kernel), List.mem_of_getElem? (i := 437) (by decide +kernel), List.mem_of_getElem? (i := 438) (by decide +kernel)⟩
theorem lw_p17 : lw_okq (⟨"PicnicOfSomebody$Mind", "figuresOfBelievers", "()I"⟩, 2) := ⟨⟨by decide +kernel, by decide +kernel⟩, List.mem_of_getElem? (i := 71) (by decide +kernel), List.mem_of_getElem? (i := 504) (by decide +kernel), List.mem_of_getElem? (i := 505) (by decide +kernel)⟩
theorem lw_p18 : lw_okq (⟨"PicnicOfSomebody$Mind", "allBelieveIn", "(II)Z"⟩, 2) := ⟨⟨by decide +kernel, by decide +kernel⟩, List.mem_of_getElem? (i := 71) (by decide +kernel), List.mem_of_getElem? (i := 555) (by decide +kernel), List.mem_of_getElem? (i := 556) (by decide +kernel)⟩
theorem lw_p19 : lw_okq (⟨"PicnicOfSomebody$Mind", "believersByPair", "(IIIII)I"⟩, 2) := ⟨⟨by decide +kernel, by decide +kernel⟩, List.mem_of_getElem? (i := 71) (by decide +kernel), List.mem_of_getElem? (i := 585) (by decide +kernel), List.mem_of_getElem? (i := 586) (by decide +kernel)⟩
theorem lw_p20 : lw_okq (⟨"PicnicOfSomebody$Mind", "isBeliefOf", "(ILPicnicOfSomebody$Row;)Z"⟩, 2) := ⟨⟨by decide +kernel, by decide +kernel⟩, List.mem_of_getElem? (i := 71) (by decide +kernel), List.mem_of_getElem? (i := 597) (by decide +kernel), List.mem_of_getElem? (i := 598) (by decide +kernel)⟩
theorem lw_p21 : lw_okq (⟨"PicnicOfSomebody$Mind", "isHowManyBelieve", "(LPicnicOfSomebody$Row;)Z"⟩, 2) := ⟨⟨by decide +kernel, by decide +kernel⟩, List.mem_of_getElem? (i := 71) (by decide +kernel), List.mem_of_getElem? (i := 613) (by decide +kernel), List.mem_of_getElem? (i := 614) (by decide +kernel)⟩
theorem lw_p22 : lw_okq (⟨"PicnicOfSomebodyModel", "no", "(I)I"⟩, 25) := ⟨⟨by decide +kernel, by decide +kernel⟩, List.mem_of_getElem? (i := 681) (by decide +kernel), List.mem_of_getElem? (i := 770) (by decide +kernel), List.mem_of_getElem? (i := 771) (by decide +kernel)⟩
theorem lw_p23 : lw_okq (⟨"PicnicOfSomebodyModel", "statement", "()Z"⟩, 25) := ⟨⟨by decide +kernel, by decide +kernel⟩, List.mem_of_getElem? (i := 681) (by decide +kernel), List.mem_of_getElem? (i := 778) (by decide +kernel), List.mem_of_getElem? (i := 779) (by decide +kernel)⟩
theorem lw_p24 : lw_okq (⟨"PicnicOfSomebodyModel", "next", "()I"⟩, 25) := ⟨⟨by decide +kernel, by decide +kernel⟩, List.mem_of_getElem? (i := 681) (by decide +kernel), List.mem_of_getElem? (i := 782) (by decide +kernel), List.mem_of_getElem? (i := 783) (by decide +kernel)⟩
theorem lw_p25 : lw_okq (⟨"PicnicOfSomebodyModel", "readsAll", "(II)Z"⟩, 25) := ⟨⟨by decide +kernel, by decide +kernel⟩, List.mem_of_getElem? (i := 681) (by decide +kernel), List.mem_of_getElem? (i := 786) (by decide +kernel), List.mem_of_getElem? (i := 787) (by decide +kernel)⟩
theorem lw_p26 : lw_okq (⟨"PicnicOfSomebodyModel", "readsOne", "(I)Z"⟩, 25) := ⟨⟨by decide +kernel, by decide +kernel⟩, List.mem_of_getElem? (i := 681) (by decide +kernel), List.mem_of_getElem? (i := 790) (by decide +kernel), List.mem_of_getElem? (i := 791) (by decide +kernel)⟩
theorem lw_p27 : lw_okq (⟨"PicnicOfSomebodyModel", "readsDigits", "(II)Z"⟩, 25) := ⟨⟨by decide +kernel, by decide +kernel⟩, List.mem_of_getElem? (i := 681) (by decide +kernel), List.mem_of_getElem? (i := 797) (by decide +kernel), List.mem_of_getElem? (i := 798) (by decide +kernel)⟩
theorem lw_p28 : lw_okq (⟨"PicnicOfSomebodyModel", "passesAll", "(IZ)V"⟩, 25) := ⟨⟨by decide +kernel, by decide +kernel⟩, List.mem_of_getElem? (i := 681) (by decide +kernel), List.mem_of_getElem? (i := 804) (by decide +kernel), List.mem_of_getElem? (i := 805) (by decide +kernel)⟩
theorem lw_p29 : lw_okq (⟨"PicnicOfSomebodyModel", "passes", "([I)V"⟩, 25) := ⟨⟨by decide +kernel, by decide +kernel⟩, List.mem_of_getElem? (i := 681) (by decide +kernel), List.mem_of_getElem? (i := 808) (by decide +kernel), List.mem_of_getElem? (i := 809) (by decide +kernel)⟩
theorem lw_p30 : lw_okq (⟨"PicnicOfSomebodyModel", "passOne", "(I)I"⟩, 25) := ⟨⟨by decide +kernel, by decide +kernel⟩, List.mem_of_getElem? (i := 681) (by decide +kernel), List.mem_of_getElem? (i := 812) (by decide +kernel), List.mem_of_getElem? (i := 813) (by decide +kernel)⟩
theorem lw_p31 : lw_okq (⟨"PicnicOfSomebodyModel", "comes", "(I)Z"⟩, 25) := ⟨⟨by decide +kernel, by decide +kernel⟩, List.mem_of_getElem? (i := 681) (by decide +kernel), List.mem_of_getElem? (i := 816) (by decide +kernel), List.mem_of_getElem? (i := 817) (by decide +kernel)⟩
def lw_privs_2 : List (MethodName × Nat) := [(⟨"PicnicOfSomebody$Mind", "believersWithout", "(II)I"⟩, 2), (⟨"PicnicOfSomebody$Mind", "figuresOfBelievers", "()I"⟩, 2), (⟨"PicnicOfSomebody$Mind", "allBelieveIn", "(II)Z"⟩, 2), (⟨"PicnicOfSomebody$Mind", "believersByPair", "(IIIII)I"⟩, 2), (⟨"PicnicOfSomebody$Mind", "isBeliefOf", "(ILPicnicOfSomebody$Row;)Z"⟩, 2), (⟨"PicnicOfSomebody$Mind", "isHowManyBelieve", "(LPicnicOfSomebody$Row;)Z"⟩, 2), (⟨"PicnicOfSomebodyModel", "no", "(I)I"⟩, 25), (⟨"PicnicOfSomebodyModel", "statement", "()Z"⟩, 25), (⟨"PicnicOfSomebodyModel", "next", "()I"⟩, 25), (⟨"PicnicOfSomebodyModel", "readsAll", "(II)Z"⟩, 25), (⟨"PicnicOfSomebodyModel", "readsOne", "(I)Z"⟩, 25), (⟨"PicnicOfSomebodyModel", "readsDigits", "(II)Z"⟩, 25), (⟨"PicnicOfSomebodyModel", "passesAll", "(IZ)V"⟩, 25), (⟨"PicnicOfSomebodyModel", "passes", "([I)V"⟩, 25), (⟨"PicnicOfSomebodyModel", "passOne", "(I)I"⟩, 25), (⟨"PicnicOfSomebodyModel", "comes", "(I)Z"⟩, 25)]
theorem lw_r2 : ∀ q ∈ lw_privs_2, lw_okq q := List.forall_mem_cons.mpr ⟨lw_p16, List.forall_mem_cons.mpr ⟨lw_p17, List.forall_mem_cons.mpr ⟨lw_p18, List.forall_mem_cons.mpr ⟨lw_p19, List.forall_mem_cons.mpr ⟨lw_p20, List.forall_mem_cons.mpr ⟨lw_p21, List.forall_mem_cons.mpr ⟨lw_p22, List.forall_mem_cons.mpr ⟨lw_p23, List.forall_mem_cons.mpr ⟨lw_p24, List.forall_mem_cons.mpr ⟨lw_p25, List.forall_mem_cons.mpr ⟨lw_p26, List.forall_mem_cons.mpr ⟨lw_p27, List.forall_mem_cons.mpr ⟨lw_p28, List.forall_mem_cons.mpr ⟨lw_p29, List.forall_mem_cons.mpr ⟨lw_p30, List.forall_mem_cons.mpr ⟨lw_p31, fun _ h => absurd h List.not_mem_nil⟩⟩⟩⟩⟩⟩⟩⟩⟩⟩⟩⟩⟩⟩⟩⟩
theorem lw_p32 : lw_okq (⟨"PicnicOfSomebodyModel", "adds", "(IIII)V"⟩, 25) := ⟨⟨by decide +kernel, by decide +kernel⟩, List.mem_of_getElem? (i := 681) (by decide +kernel), List.mem_of_getElem? (i := 823) (by decide +kernel), List.mem_of_getElem? (i := 824) (by decide +kernel)⟩
theorem lw_p33 : lw_okq (⟨"PicnicOfSomebodyModel", "isOne", "(I)Z"⟩, 25) := ⟨⟨by decide +kernel, by decide +kernel⟩, List.mem_of_getElem? (i := 681) (by decide +kernel), List.mem_of_getElem? (i := 827) (by decide +kernel), List.mem_of_getElem? (i := 828) (by decide +kernel)⟩
theorem lw_p34 : lw_okq (⟨"PicnicOfSomebodyModel", "comesYears", "(I)Z"⟩, 25) := ⟨⟨by decide +kernel, by decide +kernel⟩, List.mem_of_getElem? (i := 681) (by decide +kernel), List.mem_of_getElem? (i := 831) (by decide +kernel), List.mem_of_getElem? (i := 832) (by decide +kernel)⟩
theorem lw_p35 : lw_okq (⟨"PicnicOfSomebodyModel", "goes", "(I)V"⟩, 25) := ⟨⟨by decide +kernel, by decide +kernel⟩, List.mem_of_getElem? (i := 681) (by decide +kernel), List.mem_of_getElem? (i := 835) (by decide +kernel), List.mem_of_getElem? (i := 836) (by decide +kernel)⟩
theorem lw_p36 : lw_okq (⟨"PicnicOfSomebodyModel", "goesYear", "(Z)V"⟩, 25) := ⟨⟨by decide +kernel, by decide +kernel⟩, List.mem_of_getElem? (i := 681) (by decide +kernel), List.mem_of_getElem? (i := 839) (by decide +kernel), List.mem_of_getElem? (i := 840) (by decide +kernel)⟩
theorem lw_p37 : lw_okq (⟨"PicnicOfSomebodyModel", "here", "()I"⟩, 25) := ⟨⟨by decide +kernel, by decide +kernel⟩, List.mem_of_getElem? (i := 681) (by decide +kernel), List.mem_of_getElem? (i := 843) (by decide +kernel), List.mem_of_getElem? (i := 844) (by decide +kernel)⟩
theorem lw_p38 : lw_okq (⟨"PicnicOfSomebodyModel", "believersAt", "(I)I"⟩, 25) := ⟨⟨by decide +kernel, by decide +kernel⟩, List.mem_of_getElem? (i := 681) (by decide +kernel), List.mem_of_getElem? (i := 847) (by decide +kernel), List.mem_of_getElem? (i := 848) (by decide +kernel)⟩
theorem lw_p39 : lw_okq (⟨"PicnicOfSomebodyModel", "isThere", "(I)Z"⟩, 25) := ⟨⟨by decide +kernel, by decide +kernel⟩, List.mem_of_getElem? (i := 681) (by decide +kernel), List.mem_of_getElem? (i := 851) (by decide +kernel), List.mem_of_getElem? (i := 852) (by decide +kernel)⟩
theorem lw_p40 : lw_okq (⟨"PicnicOfSomebodyModel", "believesNow", "(I)Z"⟩, 25) := ⟨⟨by decide +kernel, by decide +kernel⟩, List.mem_of_getElem? (i := 681) (by decide +kernel), List.mem_of_getElem? (i := 858) (by decide +kernel), List.mem_of_getElem? (i := 859) (by decide +kernel)⟩
theorem lw_p41 : lw_okq (⟨"PicnicOfSomebodyModel", "nextBelief", "(II)I"⟩, 25) := ⟨⟨by decide +kernel, by decide +kernel⟩, List.mem_of_getElem? (i := 681) (by decide +kernel), List.mem_of_getElem? (i := 868) (by decide +kernel), List.mem_of_getElem? (i := 869) (by decide +kernel)⟩
theorem lw_p42 : lw_okq (⟨"PicnicOfSomebodyModel", "asFriend", "(II)I"⟩, 25) := ⟨⟨by decide +kernel, by decide +kernel⟩, List.mem_of_getElem? (i := 681) (by decide +kernel), List.mem_of_getElem? (i := 872) (by decide +kernel), List.mem_of_getElem? (i := 873) (by decide +kernel)⟩
theorem lw_p43 : lw_okq (⟨"PicnicOfSomebodyModel", "asGuest", "(I)I"⟩, 25) := ⟨⟨by decide +kernel, by decide +kernel⟩, List.mem_of_getElem? (i := 681) (by decide +kernel), List.mem_of_getElem? (i := 876) (by decide +kernel), List.mem_of_getElem? (i := 877) (by decide +kernel)⟩
theorem lw_p44 : lw_okq (⟨"PicnicOfSomebodyModel", "believersBeside", "(I)I"⟩, 25) := ⟨⟨by decide +kernel, by decide +kernel⟩, List.mem_of_getElem? (i := 681) (by decide +kernel), List.mem_of_getElem? (i := 880) (by decide +kernel), List.mem_of_getElem? (i := 881) (by decide +kernel)⟩
theorem lw_p45 : lw_okq (⟨"PicnicOfSomebodyModel", "areBeside", "(II)Z"⟩, 25) := ⟨⟨by decide +kernel, by decide +kernel⟩, List.mem_of_getElem? (i := 681) (by decide +kernel), List.mem_of_getElem? (i := 884) (by decide +kernel), List.mem_of_getElem? (i := 885) (by decide +kernel)⟩
theorem lw_p46 : lw_okq (⟨"PicnicOfSomebodyModel", "manyBeside", "(I)I"⟩, 25) := ⟨⟨by decide +kernel, by decide +kernel⟩, List.mem_of_getElem? (i := 681) (by decide +kernel), List.mem_of_getElem? (i := 888) (by decide +kernel), List.mem_of_getElem? (i := 889) (by decide +kernel)⟩
theorem lw_p47 : lw_okq (⟨"PicnicOfSomebodyModel", "asChild", "(I)I"⟩, 25) := ⟨⟨by decide +kernel, by decide +kernel⟩, List.mem_of_getElem? (i := 681) (by decide +kernel), List.mem_of_getElem? (i := 895) (by decide +kernel), List.mem_of_getElem? (i := 896) (by decide +kernel)⟩
def lw_privs_3 : List (MethodName × Nat) := [(⟨"PicnicOfSomebodyModel", "adds", "(IIII)V"⟩, 25), (⟨"PicnicOfSomebodyModel", "isOne", "(I)Z"⟩, 25), (⟨"PicnicOfSomebodyModel", "comesYears", "(I)Z"⟩, 25), (⟨"PicnicOfSomebodyModel", "goes", "(I)V"⟩, 25), (⟨"PicnicOfSomebodyModel", "goesYear", "(Z)V"⟩, 25), (⟨"PicnicOfSomebodyModel", "here", "()I"⟩, 25), (⟨"PicnicOfSomebodyModel", "believersAt", "(I)I"⟩, 25), (⟨"PicnicOfSomebodyModel", "isThere", "(I)Z"⟩, 25), (⟨"PicnicOfSomebodyModel", "believesNow", "(I)Z"⟩, 25), (⟨"PicnicOfSomebodyModel", "nextBelief", "(II)I"⟩, 25), (⟨"PicnicOfSomebodyModel", "asFriend", "(II)I"⟩, 25), (⟨"PicnicOfSomebodyModel", "asGuest", "(I)I"⟩, 25), (⟨"PicnicOfSomebodyModel", "believersBeside", "(I)I"⟩, 25), (⟨"PicnicOfSomebodyModel", "areBeside", "(II)Z"⟩, 25), (⟨"PicnicOfSomebodyModel", "manyBeside", "(I)I"⟩, 25), (⟨"PicnicOfSomebodyModel", "asChild", "(I)I"⟩, 25)]
theorem lw_r3 : ∀ q ∈ lw_privs_3, lw_okq q := List.forall_mem_cons.mpr ⟨lw_p32, List.forall_mem_cons.mpr ⟨lw_p33, List.forall_mem_cons.mpr ⟨lw_p34, List.forall_mem_cons.mpr ⟨lw_p35, List.forall_mem_cons.mpr ⟨lw_p36, List.forall_mem_cons.mpr ⟨lw_p37, List.forall_mem_cons.mpr ⟨lw_p38, List.forall_mem_cons.mpr ⟨lw_p39, List.forall_mem_cons.mpr ⟨lw_p40, List.forall_mem_cons.mpr ⟨lw_p41, List.forall_mem_cons.mpr ⟨lw_p42, List.forall_mem_cons.mpr ⟨lw_p43, List.forall_mem_cons.mpr ⟨lw_p44, List.forall_mem_cons.mpr ⟨lw_p45, List.forall_mem_cons.mpr ⟨lw_p46, List.forall_mem_cons.mpr ⟨lw_p47, fun _ h => absurd h List.not_mem_nil⟩⟩⟩⟩⟩⟩⟩⟩⟩⟩⟩⟩⟩⟩⟩⟩
theorem lw_p48 : lw_okq (⟨"PicnicOfSomebodyModel", "believers", "()I"⟩, 25) := ⟨⟨by decide +kernel, by decide +kernel⟩, List.mem_of_getElem? (i := 681) (by decide +kernel), List.mem_of_getElem? (i := 942) (by decide +kernel), List.mem_of_getElem? (i := 943) (by decide +kernel)⟩
theorem lw_p49 : lw_okq (⟨"PicnicOfSomebodyModel", "thinks", "()V"⟩, 25) := ⟨⟨by decide +kernel, by decide +kernel⟩, List.mem_of_getElem? (i := 681) (by decide +kernel), List.mem_of_getElem? (i := 956) (by decide +kernel), List.mem_of_getElem? (i := 957) (by decide +kernel)⟩
theorem lw_p50 : lw_okq (⟨"PicnicOfSomebodyModel", "forgets", "()V"⟩, 25) := ⟨⟨by decide +kernel, by decide +kernel⟩, List.mem_of_getElem? (i := 681) (by decide +kernel), List.mem_of_getElem? (i := 960) (by decide +kernel), List.mem_of_getElem? (i := 961) (by decide +kernel)⟩
theorem lw_p51 : lw_okq (⟨"PicnicOfSomebodyModel", "believersIn", "(I)I"⟩, 25) := ⟨⟨by decide +kernel, by decide +kernel⟩, List.mem_of_getElem? (i := 681) (by decide +kernel), List.mem_of_getElem? (i := 968) (by decide +kernel), List.mem_of_getElem? (i := 969) (by decide +kernel)⟩
theorem lw_p52 : lw_okq (⟨"PicnicOfSomebodyModel", "isFirst", "(II)Z"⟩, 25) := ⟨⟨by decide +kernel, by decide +kernel⟩, List.mem_of_getElem? (i := 681) (by decide +kernel), List.mem_of_getElem? (i := 980) (by decide +kernel), List.mem_of_getElem? (i := 981) (by decide +kernel)⟩
theorem lw_p53 : lw_okq (⟨"PicnicOfSomebodyModel", "everybody", "()I"⟩, 25) := ⟨⟨by decide +kernel, by decide +kernel⟩, List.mem_of_getElem? (i := 681) (by decide +kernel), List.mem_of_getElem? (i := 984) (by decide +kernel), List.mem_of_getElem? (i := 985) (by decide +kernel)⟩
theorem lw_p54 : lw_okq (⟨"PicnicOfSomebodyModel", "isSettled", "()Z"⟩, 25) := ⟨⟨by decide +kernel, by decide +kernel⟩, List.mem_of_getElem? (i := 681) (by decide +kernel), List.mem_of_getElem? (i := 988) (by decide +kernel), List.mem_of_getElem? (i := 989) (by decide +kernel)⟩
theorem lw_p55 : lw_okq (⟨"PicnicOfSomebodyModel", "believersIf", "(II)I"⟩, 25) := ⟨⟨by decide +kernel, by decide +kernel⟩, List.mem_of_getElem? (i := 681) (by decide +kernel), List.mem_of_getElem? (i := 999) (by decide +kernel), List.mem_of_getElem? (i := 1000) (by decide +kernel)⟩
theorem lw_p56 : lw_okq (⟨"PicnicOfSomebodyModel", "believersWithout", "(II)I"⟩, 25) := ⟨⟨by decide +kernel, by decide +kernel⟩, List.mem_of_getElem? (i := 681) (by decide +kernel), List.mem_of_getElem? (i := 1007) (by decide +kernel), List.mem_of_getElem? (i := 1008) (by decide +kernel)⟩
theorem lw_p57 : lw_okq (⟨"PicnicOfSomebodyModel", "beliefFrom", "(III)I"⟩, 25) := ⟨⟨by decide +kernel, by decide +kernel⟩, List.mem_of_getElem? (i := 681) (by decide +kernel), List.mem_of_getElem? (i := 1019) (by decide +kernel), List.mem_of_getElem? (i := 1020) (by decide +kernel)⟩
theorem lw_p58 : lw_okq (⟨"PicnicOfSomebodyModel", "lower", "(I)I"⟩, 25) := ⟨⟨by decide +kernel, by decide +kernel⟩, List.mem_of_getElem? (i := 681) (by decide +kernel), List.mem_of_getElem? (i := 1031) (by decide +kernel), List.mem_of_getElem? (i := 1032) (by decide +kernel)⟩
theorem lw_p59 : lw_okq (⟨"PicnicOfSomebodyModel", "chainOf", "(I)I"⟩, 25) := ⟨⟨by decide +kernel, by decide +kernel⟩, List.mem_of_getElem? (i := 681) (by decide +kernel), List.mem_of_getElem? (i := 1048) (by decide +kernel), List.mem_of_getElem? (i := 1049) (by decide +kernel)⟩
theorem lw_p60 : lw_okq (⟨"PicnicOfSomebodyModel", "stepsTo", "(I)I"⟩, 25) := ⟨⟨by decide +kernel, by decide +kernel⟩, List.mem_of_getElem? (i := 681) (by decide +kernel), List.mem_of_getElem? (i := 1060) (by decide +kernel), List.mem_of_getElem? (i := 1061) (by decide +kernel)⟩
theorem lw_p61 : lw_okq (⟨"PicnicOfSomebodyModel", "lowest", "(I)J"⟩, 25) := ⟨⟨by decide +kernel, by decide +kernel⟩, List.mem_of_getElem? (i := 681) (by decide +kernel), List.mem_of_getElem? (i := 1068) (by decide +kernel), List.mem_of_getElem? (i := 1069) (by decide +kernel)⟩
theorem lw_p62 : lw_okq (⟨"PicnicOfSomebodyModel", "manyIf", "(IIIII)I"⟩, 25) := ⟨⟨by decide +kernel, by decide +kernel⟩, List.mem_of_getElem? (i := 681) (by decide +kernel), List.mem_of_getElem? (i := 1087) (by decide +kernel), List.mem_of_getElem? (i := 1088) (by decide +kernel)⟩
theorem lw_p63 : lw_okq (⟨"PicnicOfSomebodyModel", "bitsFor", "([III)I"⟩, 25) := ⟨⟨by decide +kernel, by decide +kernel⟩, List.mem_of_getElem? (i := 681) (by decide +kernel), List.mem_of_getElem? (i := 1095) (by decide +kernel), List.mem_of_getElem? (i := 1096) (by decide +kernel)⟩
def lw_privs_4 : List (MethodName × Nat) := [(⟨"PicnicOfSomebodyModel", "believers", "()I"⟩, 25), (⟨"PicnicOfSomebodyModel", "thinks", "()V"⟩, 25), (⟨"PicnicOfSomebodyModel", "forgets", "()V"⟩, 25), (⟨"PicnicOfSomebodyModel", "believersIn", "(I)I"⟩, 25), (⟨"PicnicOfSomebodyModel", "isFirst", "(II)Z"⟩, 25), (⟨"PicnicOfSomebodyModel", "everybody", "()I"⟩, 25), (⟨"PicnicOfSomebodyModel", "isSettled", "()Z"⟩, 25), (⟨"PicnicOfSomebodyModel", "believersIf", "(II)I"⟩, 25), (⟨"PicnicOfSomebodyModel", "believersWithout", "(II)I"⟩, 25), (⟨"PicnicOfSomebodyModel", "beliefFrom", "(III)I"⟩, 25), (⟨"PicnicOfSomebodyModel", "lower", "(I)I"⟩, 25), (⟨"PicnicOfSomebodyModel", "chainOf", "(I)I"⟩, 25), (⟨"PicnicOfSomebodyModel", "stepsTo", "(I)I"⟩, 25), (⟨"PicnicOfSomebodyModel", "lowest", "(I)J"⟩, 25), (⟨"PicnicOfSomebodyModel", "manyIf", "(IIIII)I"⟩, 25), (⟨"PicnicOfSomebodyModel", "bitsFor", "([III)I"⟩, 25)]
theorem lw_r4 : ∀ q ∈ lw_privs_4, lw_okq q := List.forall_mem_cons.mpr ⟨lw_p48, List.forall_mem_cons.mpr ⟨lw_p49, List.forall_mem_cons.mpr ⟨lw_p50, List.forall_mem_cons.mpr ⟨lw_p51, List.forall_mem_cons.mpr ⟨lw_p52, List.forall_mem_cons.mpr ⟨lw_p53, List.forall_mem_cons.mpr ⟨lw_p54, List.forall_mem_cons.mpr ⟨lw_p55, List.forall_mem_cons.mpr ⟨lw_p56, List.forall_mem_cons.mpr ⟨lw_p57, List.forall_mem_cons.mpr ⟨lw_p58, List.forall_mem_cons.mpr ⟨lw_p59, List.forall_mem_cons.mpr ⟨lw_p60, List.forall_mem_cons.mpr ⟨lw_p61, List.forall_mem_cons.mpr ⟨lw_p62, List.forall_mem_cons.mpr ⟨lw_p63, fun _ h => absurd h List.not_mem_nil⟩⟩⟩⟩⟩⟩⟩⟩⟩⟩⟩⟩⟩⟩⟩⟩
theorem lw_p64 : lw_okq (⟨"PicnicOfSomebodyModel", "isSo", "(I)Z"⟩, 25) := ⟨⟨by decide +kernel, by decide +kernel⟩, List.mem_of_getElem? (i := 681) (by decide +kernel), List.mem_of_getElem? (i := 1099) (by decide +kernel), List.mem_of_getElem? (i := 1100) (by decide +kernel)⟩
theorem lw_p65 : lw_okq (⟨"PicnicOfSomebodyModel", "areSoMany", "()Z"⟩, 25) := ⟨⟨by decide +kernel, by decide +kernel⟩, List.mem_of_getElem? (i := 681) (by decide +kernel), List.mem_of_getElem? (i := 1107) (by decide +kernel), List.mem_of_getElem? (i := 1108) (by decide +kernel)⟩
theorem lw_p66 : lw_okq (⟨"PicnicOfSomebodyModel", "draw", "(I)I"⟩, 25) := ⟨⟨by decide +kernel, by decide +kernel⟩, List.mem_of_getElem? (i := 681) (by decide +kernel), List.mem_of_getElem? (i := 1127) (by decide +kernel), List.mem_of_getElem? (i := 1128) (by decide +kernel)⟩
theorem lw_p67 : lw_okq (⟨"PicnicOfSomebodyModel", "allBelief", "()I"⟩, 25) := ⟨⟨by decide +kernel, by decide +kernel⟩, List.mem_of_getElem? (i := 681) (by decide +kernel), List.mem_of_getElem? (i := 1134) (by decide +kernel), List.mem_of_getElem? (i := 1135) (by decide +kernel)⟩
def lw_privs_5 : List (MethodName × Nat) := [(⟨"PicnicOfSomebodyModel", "isSo", "(I)Z"⟩, 25), (⟨"PicnicOfSomebodyModel", "areSoMany", "()Z"⟩, 25), (⟨"PicnicOfSomebodyModel", "draw", "(I)I"⟩, 25), (⟨"PicnicOfSomebodyModel", "allBelief", "()I"⟩, 25)]
theorem lw_r5 : ∀ q ∈ lw_privs_5, lw_okq q := List.forall_mem_cons.mpr ⟨lw_p64, List.forall_mem_cons.mpr ⟨lw_p65, List.forall_mem_cons.mpr ⟨lw_p66, List.forall_mem_cons.mpr ⟨lw_p67, fun _ h => absurd h List.not_mem_nil⟩⟩⟩⟩
def lw_privs : List (MethodName × Nat) := lw_privs_1 ++ (lw_privs_2 ++ (lw_privs_3 ++ (lw_privs_4 ++ (lw_privs_5))))
def lw_tbl : List Cond := k2_sels lw_privs ++ tables_1
theorem lw_privs_ok : ∀ q ∈ lw_privs, lw_okq q := by
  show ∀ q ∈ lw_privs_1 ++ (lw_privs_2 ++ (lw_privs_3 ++ (lw_privs_4 ++ (lw_privs_5)))), lw_okq q
  exact List.forall_mem_append.mpr ⟨lw_r1, List.forall_mem_append.mpr ⟨lw_r2, List.forall_mem_append.mpr ⟨lw_r3, List.forall_mem_append.mpr ⟨lw_r4, lw_r5⟩⟩⟩⟩
-- ===== end of PART A; then your names; then what follows =====
/-! ===== BEGIN words of one list among another's, by their places ===== -/
theorem goodIn_r {big : List Cond} (ws : List Cond) (ps : List Nat) (hp : ws = ps.filterMap (fun i => big[i]?)) (h : ws.all goodWord = true) : GoodIn big ws := by
  intro w hw
  have h1 := List.all_eq_true.mp h w hw
  rw [hp] at hw
  obtain ⟨i, -, hi⟩ := List.mem_filterMap.mp hw
  have hm : w ∈ big := by first | exact List.mem_of_getElem? hi | exact List.getElem?_mem hi
  exact ⟨hm, good_of_word h1⟩
theorem goodIn_app {big a b : List Cond} (ha : GoodIn big a) (hb : GoodIn big b) : GoodIn big (a ++ b) := fun w h => (List.mem_append.mp h).elim (ha w) (hb w)
theorem goodIn_ca {big a b : List Cond} {c : Cond} (ha : GoodIn big (c :: a)) (hb : GoodIn big b) : GoodIn big (c :: (a ++ b)) := fun w h => (List.mem_cons.mp h).elim (fun e => ha w (List.mem_cons.mpr (Or.inl e))) (fun h => (List.mem_append.mp h).elim (fun h => ha w (List.mem_cons.mpr (Or.inr h))) (hb w))
theorem goodIn_sub {big ws : List Cond} (hm : ∀ w ∈ ws, w ∈ big) (h : ws.all goodWord = true) : GoodIn big ws := fun w hw => ⟨hm w hw, good_of_word (List.all_eq_true.mp h w hw)⟩
/-! ===== END ===== -/

/-! ===== BEGIN printed: names, fields, word lists, decode rows ===== -/
def RX0 : String := "PicnicOfSomebody$Company"
def TX0 : u_T := fun k => match k with
  | _ => ("PicnicOfSomebody$Company", "now", "LPicnicOfSomebody$Slope;", true)
def tyX0 : Nat → FieldType := fun k => match k with
  | _ => .object "PicnicOfSomebody$Slope"
abbrev wsX00 : List Cond := u_ws RX0 TX0 1
theorem nmX0 : ∀ a, a < 1 → ∀ b, b < 1 → a ≠ b → (TX0 a).2.1 ≠ (TX0 b).2.1 := by decide +kernel
theorem tyX0_ok : ∀ k, k < 1 → parseFieldDescriptor (TX0 k).2.2.1 = some (tyX0 k) := by decide +kernel
abbrev cX0_init : ByteArray := prog_2_method_1_code
def yX0_init : MethodName := ⟨RX0, "<init>", "(LPicnicOfSomebody$Slope;)V"⟩
abbrev cX0_nearestTo : ByteArray := prog_2_method_2_code
def yX0_nearestTo : MethodName := ⟨RX0, "nearestTo", "(I)I"⟩
abbrev cX0_chainOf : ByteArray := prog_2_method_3_code
def yX0_chainOf : MethodName := ⟨RX0, "chainOf", "(I)I"⟩
abbrev cX0_chains : ByteArray := prog_2_method_4_code
def yX0_chains : MethodName := ⟨RX0, "chains", "()I"⟩
abbrev cX0_mostInAChain : ByteArray := prog_2_method_5_code
def yX0_mostInAChain : MethodName := ⟨RX0, "mostInAChain", "()I"⟩
abbrev cX0_middleCell : ByteArray := prog_2_method_6_code
def yX0_middleCell : MethodName := ⟨RX0, "middleCell", "()I"⟩
abbrev cX0_stepsFrom : ByteArray := prog_2_method_7_code
def yX0_stepsFrom : MethodName := ⟨RX0, "stepsFrom", "(I)I"⟩
def RX1 : String := "PicnicOfSomebody$Mind"
def TX1 : u_T := fun k => match k with
  | 0 => ("PicnicOfSomebody$Mind", "now", "LPicnicOfSomebody$Slope;", true)
  | _ => ("PicnicOfSomebody$Mind", "thought", "LPicnicOfSomebody$Slope;", true)
def tyX1 : Nat → FieldType := fun k => match k with
  | 0 => .object "PicnicOfSomebody$Slope"
  | _ => .object "PicnicOfSomebody$Slope"
abbrev wsX10 : List Cond := u_ws RX1 TX1 2
theorem nmX1 : ∀ a, a < 2 → ∀ b, b < 2 → a ≠ b → (TX1 a).2.1 ≠ (TX1 b).2.1 := by decide +kernel
theorem tyX1_ok : ∀ k, k < 2 → parseFieldDescriptor (TX1 k).2.2.1 = some (tyX1 k) := by decide +kernel
abbrev cX1_init : ByteArray := prog_3_method_1_code
def yX1_init : MethodName := ⟨RX1, "<init>", "(LPicnicOfSomebody$Slope;LPicnicOfSomebody$Slope;)V"⟩
abbrev cX1_think : ByteArray := prog_3_method_2_code
def yX1_think : MethodName := ⟨RX1, "think", "()LPicnicOfSomebody$Slope;"⟩
abbrev cX1_allBelieve : ByteArray := prog_3_method_3_code
def yX1_allBelieve : MethodName := ⟨RX1, "allBelieve", "()Z"⟩
abbrev cX1_yearsTillAll : ByteArray := prog_3_method_4_code
def yX1_yearsTillAll : MethodName := ⟨RX1, "yearsTillAll", "()I"⟩
abbrev cX1_yearsTillNone : ByteArray := prog_3_method_5_code
def yX1_yearsTillNone : MethodName := ⟨RX1, "yearsTillNone", "()I"⟩
abbrev cX1_yearsTillSettled : ByteArray := prog_3_method_6_code
def yX1_yearsTillSettled : MethodName := ⟨RX1, "yearsTillSettled", "()I"⟩
abbrev cX1_yearsTillElsewhere : ByteArray := prog_3_method_7_code
def yX1_yearsTillElsewhere : MethodName := ⟨RX1, "yearsTillElsewhere", "()I"⟩
abbrev cX1_fewestMakers : ByteArray := prog_3_method_8_code
def yX1_fewestMakers : MethodName := ⟨RX1, "fewestMakers", "(I)I"⟩
abbrev cX1_isMadeBy : ByteArray := prog_3_method_9_code
def yX1_isMadeBy : MethodName := ⟨RX1, "isMadeBy", "(II)Z"⟩
abbrev cX1_fewestLeavers : ByteArray := prog_3_method_10_code
def yX1_fewestLeavers : MethodName := ⟨RX1, "fewestLeavers", "(I)I"⟩
abbrev cX1_believersWithout : ByteArray := prog_3_method_11_code
def yX1_believersWithout : MethodName := ⟨RX1, "believersWithout", "(II)I"⟩
abbrev cX1_whomToAsk : ByteArray := prog_3_method_12_code
def yX1_whomToAsk : MethodName := ⟨RX1, "whomToAsk", "(I)I"⟩
abbrev cX1_bestCell : ByteArray := prog_3_method_13_code
def yX1_bestCell : MethodName := ⟨RX1, "bestCell", "(II)I"⟩
abbrev cX1_beliefFrom : ByteArray := prog_3_method_14_code
def yX1_beliefFrom : MethodName := ⟨RX1, "beliefFrom", "(III)I"⟩
abbrev cX1_worstDoubter : ByteArray := prog_3_method_15_code
def yX1_worstDoubter : MethodName := ⟨RX1, "worstDoubter", "(I)I"⟩
abbrev cX1_moreByStranger : ByteArray := prog_3_method_16_code
def yX1_moreByStranger : MethodName := ⟨RX1, "moreByStranger", "(I)I"⟩
abbrev cX1_thingsPassed : ByteArray := prog_3_method_17_code
def yX1_thingsPassed : MethodName := ⟨RX1, "thingsPassed", "(I)I"⟩
abbrev cX1_figuresOfBelievers : ByteArray := prog_3_method_18_code
def yX1_figuresOfBelievers : MethodName := ⟨RX1, "figuresOfBelievers", "()I"⟩
abbrev cX1_windsToAll : ByteArray := prog_3_method_19_code
def yX1_windsToAll : MethodName := ⟨RX1, "windsToAll", "(II)J"⟩
abbrev cX1_allBelieveIn : ByteArray := prog_3_method_20_code
def yX1_allBelieveIn : MethodName := ⟨RX1, "allBelieveIn", "(II)Z"⟩
abbrev cX1_power : ByteArray := prog_3_method_21_code
def yX1_power : MethodName := ⟨RX1, "power", "(II)J"⟩
abbrev cX1_firstStillPair : ByteArray := prog_3_method_22_code
def yX1_firstStillPair : MethodName := ⟨RX1, "firstStillPair", "(III)I"⟩
abbrev cX1_believersByPair : ByteArray := prog_3_method_23_code
def yX1_believersByPair : MethodName := ⟨RX1, "believersByPair", "(IIIII)I"⟩
abbrev cX1_kindsBy : ByteArray := prog_3_method_24_code
def yX1_kindsBy : MethodName := ⟨RX1, "kindsBy", "(LPicnicOfSomebody$Row;I)I"⟩
abbrev cX1_figuresBy : ByteArray := prog_3_method_25_code
def yX1_figuresBy : MethodName := ⟨RX1, "figuresBy", "(LPicnicOfSomebody$Row;I)I"⟩
abbrev cX1_isBeliefOf : ByteArray := prog_3_method_26_code
def yX1_isBeliefOf : MethodName := ⟨RX1, "isBeliefOf", "(ILPicnicOfSomebody$Row;)Z"⟩
abbrev cX1_missingBy : ByteArray := prog_3_method_27_code
def yX1_missingBy : MethodName := ⟨RX1, "missingBy", "(LPicnicOfSomebody$Row;)I"⟩
abbrev cX1_isHowManyBelieve : ByteArray := prog_3_method_28_code
def yX1_isHowManyBelieve : MethodName := ⟨RX1, "isHowManyBelieve", "(LPicnicOfSomebody$Row;)Z"⟩
abbrev cX1_firstWrongPlace : ByteArray := prog_3_method_29_code
def yX1_firstWrongPlace : MethodName := ⟨RX1, "firstWrongPlace", "(LPicnicOfSomebody$Row;)I"⟩
abbrev cX1_allByLot : ByteArray := prog_3_method_30_code
def yX1_allByLot : MethodName := ⟨RX1, "allByLot", "(III)I"⟩
abbrev cX1_stirred : ByteArray := prog_3_method_31_code
def yX1_stirred : MethodName := ⟨RX1, "stirred", "(I)I"⟩
abbrev cX1_drawn : ByteArray := prog_3_method_32_code
def yX1_drawn : MethodName := ⟨RX1, "drawn", "(II)I"⟩
def RX2 : String := "PicnicOfSomebody$Row"
def TX2 : u_T := fun k => match k with
  | 0 => ("PicnicOfSomebody$Row", "numbers", "[I", true)
  | _ => ("PicnicOfSomebody$Row", "size", "I", false)
def tyX2 : Nat → FieldType := fun k => match k with
  | 0 => .array .int
  | _ => .int
abbrev wsX20 : List Cond := u_ws RX2 TX2 2
theorem nmX2 : ∀ a, a < 2 → ∀ b, b < 2 → a ≠ b → (TX2 a).2.1 ≠ (TX2 b).2.1 := by decide +kernel
theorem tyX2_ok : ∀ k, k < 2 → parseFieldDescriptor (TX2 k).2.2.1 = some (tyX2 k) := by decide +kernel
abbrev cX2_init : ByteArray := prog_4_method_1_code
def yX2_init : MethodName := ⟨RX2, "<init>", "()V"⟩
abbrev cX2_isFull : ByteArray := prog_4_method_2_code
def yX2_isFull : MethodName := ⟨RX2, "isFull", "()Z"⟩
abbrev cX2_append : ByteArray := prog_4_method_3_code
def yX2_append : MethodName := ⟨RX2, "append", "(I)I"⟩
abbrev cX2_empty : ByteArray := prog_4_method_4_code
def yX2_empty : MethodName := ⟨RX2, "empty", "()I"⟩
def RX3 : String := "PicnicOfSomebody$Slope"
def TX3 : u_T := fun k => match k with
  | 0 => ("PicnicOfSomebody$Slope", "depths", "[I", true)
  | 1 => ("PicnicOfSomebody$Slope", "kinds", "[I", true)
  | 2 => ("PicnicOfSomebody$Slope", "figures", "[I", true)
  | 3 => ("PicnicOfSomebody$Slope", "cells", "[I", true)
  | 4 => ("PicnicOfSomebody$Slope", "beliefs", "[I", true)
  | 5 => ("PicnicOfSomebody$Slope", "nexts", "[I", true)
  | 6 => ("PicnicOfSomebody$Slope", "people", "I", false)
  | _ => ("PicnicOfSomebody$Slope", "year", "I", false)
def tyX3 : Nat → FieldType := fun k => match k with
  | 0 => .array .int
  | 1 => .array .int
  | 2 => .array .int
  | 3 => .array .int
  | 4 => .array .int
  | 5 => .array .int
  | 6 => .int
  | _ => .int
abbrev wsX30 : List Cond := u_ws RX3 TX3 8
theorem nmX3 : ∀ a, a < 8 → ∀ b, b < 8 → a ≠ b → (TX3 a).2.1 ≠ (TX3 b).2.1 := by decide +kernel
theorem tyX3_ok : ∀ k, k < 8 → parseFieldDescriptor (TX3 k).2.2.1 = some (tyX3 k) := by decide +kernel
abbrev cX3_init : ByteArray := prog_5_method_1_code
def yX3_init : MethodName := ⟨RX3, "<init>", "()V"⟩
abbrev cX3_take : ByteArray := prog_5_method_2_code
def yX3_take : MethodName := ⟨RX3, "take", "(LPicnicOfSomebody$Slope;)V"⟩
abbrev cX3_isFull : ByteArray := prog_5_method_3_code
def yX3_isFull : MethodName := ⟨RX3, "isFull", "()Z"⟩
abbrev cX3_join : ByteArray := prog_5_method_4_code
def yX3_join : MethodName := ⟨RX3, "join", "(IIII)V"⟩
abbrev cX3_dropAll : ByteArray := prog_5_method_5_code
def yX3_dropAll : MethodName := ⟨RX3, "dropAll", "(I)V"⟩
abbrev cX3_hollow : ByteArray := prog_5_method_6_code
def yX3_hollow : MethodName := ⟨RX3, "hollow", "()I"⟩
abbrev cX3_besideBits : ByteArray := prog_5_method_7_code
def yX3_besideBits : MethodName := ⟨RX3, "besideBits", "(I)I"⟩
abbrev cX3_isBeliever : ByteArray := prog_5_method_8_code
def yX3_isBeliever : MethodName := ⟨RX3, "isBeliever", "(I)Z"⟩
abbrev cX3_believerBits : ByteArray := prog_5_method_9_code
def yX3_believerBits : MethodName := ⟨RX3, "believerBits", "()I"⟩
abbrev cX3_believers : ByteArray := prog_5_method_10_code
def yX3_believers : MethodName := ⟨RX3, "believers", "()I"⟩
abbrev cX3_allBelief : ByteArray := prog_5_method_11_code
def yX3_allBelief : MethodName := ⟨RX3, "allBelief", "()I"⟩
abbrev cX3_allDepth : ByteArray := prog_5_method_12_code
def yX3_allDepth : MethodName := ⟨RX3, "allDepth", "()I"⟩
abbrev cX3_nextBelief : ByteArray := prog_5_method_13_code
def yX3_nextBelief : MethodName := ⟨RX3, "nextBelief", "(II)I"⟩
abbrev cX3_nextOfKind : ByteArray := prog_5_method_14_code
def yX3_nextOfKind : MethodName := ⟨RX3, "nextOfKind", "(IIII)I"⟩
abbrev cX3_passYears : ByteArray := prog_5_method_15_code
def yX3_passYears : MethodName := ⟨RX3, "passYears", "(I)I"⟩
abbrev cX3_passYear : ByteArray := prog_5_method_16_code
def yX3_passYear : MethodName := ⟨RX3, "passYear", "(Z)Z"⟩
abbrev cX3_believersAround : ByteArray := prog_5_method_17_code
def yX3_believersAround : MethodName := ⟨RX3, "believersAround", "(I)I"⟩
abbrev cX3_deepen : ByteArray := prog_5_method_18_code
def yX3_deepen : MethodName := ⟨RX3, "deepen", "(II)V"⟩
abbrev cX3_nearer : ByteArray := prog_5_method_19_code
def yX3_nearer : MethodName := ⟨RX3, "nearer", "(II)I"⟩
def RX4 : String := "PicnicOfSomebody$Text"
def TX4 : u_T := fun k => match k with
  | 0 => ("PicnicOfSomebody$Text", "letters", "[I", true)
  | 1 => ("PicnicOfSomebody$Text", "now", "LPicnicOfSomebody$Slope;", true)
  | 2 => ("PicnicOfSomebody$Text", "draft", "LPicnicOfSomebody$Slope;", true)
  | _ => ("PicnicOfSomebody$Text", "size", "I", false)
def tyX4 : Nat → FieldType := fun k => match k with
  | 0 => .array .int
  | 1 => .object "PicnicOfSomebody$Slope"
  | 2 => .object "PicnicOfSomebody$Slope"
  | _ => .int
abbrev wsX40 : List Cond := u_ws RX4 TX4 4
theorem nmX4 : ∀ a, a < 4 → ∀ b, b < 4 → a ≠ b → (TX4 a).2.1 ≠ (TX4 b).2.1 := by decide +kernel
theorem tyX4_ok : ∀ k, k < 4 → parseFieldDescriptor (TX4 k).2.2.1 = some (tyX4 k) := by decide +kernel
abbrev cX4_init : ByteArray := prog_6_method_1_code
def yX4_init : MethodName := ⟨RX4, "<init>", "(LPicnicOfSomebody$Slope;LPicnicOfSomebody$Slope;)V"⟩
abbrev cX4_isFull : ByteArray := prog_6_method_2_code
def yX4_isFull : MethodName := ⟨RX4, "isFull", "()Z"⟩
abbrev cX4_append : ByteArray := prog_6_method_3_code
def yX4_append : MethodName := ⟨RX4, "append", "(I)I"⟩
abbrev cX4_empty : ByteArray := prog_6_method_4_code
def yX4_empty : MethodName := ⟨RX4, "empty", "()V"⟩
abbrev cX4_become : ByteArray := prog_6_method_5_code
def yX4_become : MethodName := ⟨RX4, "become", "()I"⟩
abbrev cX4_placeOfWrongForm : ByteArray := prog_6_method_6_code
def yX4_placeOfWrongForm : MethodName := ⟨RX4, "placeOfWrongForm", "()I"⟩
abbrev cX4_lengthOf : ByteArray := prog_6_method_7_code
def yX4_lengthOf : MethodName := ⟨RX4, "lengthOf", "(I)I"⟩
abbrev cX4_fits : ByteArray := prog_6_method_8_code
def yX4_fits : MethodName := ⟨RX4, "fits", "(III)Z"⟩
abbrev cX4_kindOf : ByteArray := prog_6_method_9_code
def yX4_kindOf : MethodName := ⟨RX4, "kindOf", "(I)I"⟩
abbrev cX4_letterAt : ByteArray := prog_6_method_10_code
def yX4_letterAt : MethodName := ⟨RX4, "letterAt", "(I)I"⟩
abbrev cX4_digit : ByteArray := prog_6_method_11_code
def yX4_digit : MethodName := ⟨RX4, "digit", "(I)I"⟩
abbrev cX4_twoDigits : ByteArray := prog_6_method_12_code
def yX4_twoDigits : MethodName := ⟨RX4, "twoDigits", "(I)I"⟩
abbrev cX4_comes : ByteArray := prog_6_method_13_code
def yX4_comes : MethodName := ⟨RX4, "comes", "(I)Z"⟩
abbrev cX4_personComes : ByteArray := prog_6_method_14_code
def yX4_personComes : MethodName := ⟨RX4, "personComes", "(IIII)Z"⟩
abbrev cX4_depthComes : ByteArray := prog_6_method_15_code
def yX4_depthComes : MethodName := ⟨RX4, "depthComes", "(II)Z"⟩
abbrev cX4_beliefComes : ByteArray := prog_6_method_16_code
def yX4_beliefComes : MethodName := ⟨RX4, "beliefComes", "(II)Z"⟩
abbrev cX4_seatComes : ByteArray := prog_6_method_17_code
def yX4_seatComes : MethodName := ⟨RX4, "seatComes", "(II)Z"⟩
def RX5 : String := "PicnicOfSomebody"
def TX5 : u_T := fun k => match k with
  | 0 => ("PicnicOfSomebody", "now", "LPicnicOfSomebody$Slope;", true)
  | 1 => ("PicnicOfSomebody", "taken", "LPicnicOfSomebody$Slope;", true)
  | 2 => ("PicnicOfSomebody", "thought", "LPicnicOfSomebody$Slope;", true)
  | 3 => ("PicnicOfSomebody", "mind", "LPicnicOfSomebody$Mind;", true)
  | 4 => ("PicnicOfSomebody", "company", "LPicnicOfSomebody$Company;", true)
  | 5 => ("PicnicOfSomebody", "text", "LPicnicOfSomebody$Text;", true)
  | 6 => ("PicnicOfSomebody", "told", "LPicnicOfSomebody$Row;", true)
  | 7 => ("PicnicOfSomebody", "refusals", "[I", true)
  | _ => ("PicnicOfSomebody", "isTaken", "Z", false)
def tyX5 : Nat → FieldType := fun k => match k with
  | 0 => .object "PicnicOfSomebody$Slope"
  | 1 => .object "PicnicOfSomebody$Slope"
  | 2 => .object "PicnicOfSomebody$Slope"
  | 3 => .object "PicnicOfSomebody$Mind"
  | 4 => .object "PicnicOfSomebody$Company"
  | 5 => .object "PicnicOfSomebody$Text"
  | 6 => .object "PicnicOfSomebody$Row"
  | 7 => .array .int
  | _ => .boolean
abbrev wsX50 : List Cond := u_ws RX5 TX5 9
theorem nmX5 : ∀ a, a < 9 → ∀ b, b < 9 → a ≠ b → (TX5 a).2.1 ≠ (TX5 b).2.1 := by decide +kernel
theorem tyX5_ok : ∀ k, k < 9 → parseFieldDescriptor (TX5 k).2.2.1 = some (tyX5 k) := by decide +kernel
abbrev cX5_init : ByteArray := prog_1_method_1_code
def yX5_init : MethodName := ⟨RX5, "<init>", "()V"⟩
abbrev cX5_letter : ByteArray := prog_1_method_2_code
def yX5_letter : MethodName := ⟨RX5, "letter", "(I)I"⟩
abbrev cX5_slope : ByteArray := prog_1_method_3_code
def yX5_slope : MethodName := ⟨RX5, "slope", "()I"⟩
abbrev cX5_depth : ByteArray := prog_1_method_4_code
def yX5_depth : MethodName := ⟨RX5, "depth", "(I)I"⟩
abbrev cX5_person : ByteArray := prog_1_method_5_code
def yX5_person : MethodName := ⟨RX5, "person", "(II)I"⟩
abbrev cX5_place : ByteArray := prog_1_method_6_code
def yX5_place : MethodName := ⟨RX5, "place", "()I"⟩
abbrev cX5_digs : ByteArray := prog_1_method_7_code
def yX5_digs : MethodName := ⟨RX5, "digs", "(II)I"⟩
abbrev cX5_believes : ByteArray := prog_1_method_8_code
def yX5_believes : MethodName := ⟨RX5, "believes", "(II)I"⟩
abbrev cX5_sits : ByteArray := prog_1_method_9_code
def yX5_sits : MethodName := ⟨RX5, "sits", "(II)I"⟩
abbrev cX5_turn : ByteArray := prog_1_method_10_code
def yX5_turn : MethodName := ⟨RX5, "turn", "(III)I"⟩
abbrev cX5_years : ByteArray := prog_1_method_11_code
def yX5_years : MethodName := ⟨RX5, "years", "(I)I"⟩
abbrev cX5_behind : ByteArray := prog_1_method_12_code
def yX5_behind : MethodName := ⟨RX5, "behind", "(III)I"⟩
abbrev cX5_then : ByteArray := prog_1_method_13_code
def yX5_then : MethodName := ⟨RX5, "then", "(II)I"⟩
abbrev cX5_depthThen : ByteArray := prog_1_method_14_code
def yX5_depthThen : MethodName := ⟨RX5, "depthThen", "(II)I"⟩
abbrev cX5_first : ByteArray := prog_1_method_15_code
def yX5_first : MethodName := ⟨RX5, "first", "(I)I"⟩
abbrev cX5_makes : ByteArray := prog_1_method_16_code
def yX5_makes : MethodName := ⟨RX5, "makes", "(I)I"⟩
abbrev cX5_leaves : ByteArray := prog_1_method_17_code
def yX5_leaves : MethodName := ⟨RX5, "leaves", "(I)I"⟩
abbrev cX5_ask : ByteArray := prog_1_method_18_code
def yX5_ask : MethodName := ⟨RX5, "ask", "(I)I"⟩
abbrev cX5_sit : ByteArray := prog_1_method_19_code
def yX5_sit : MethodName := ⟨RX5, "sit", "(III)I"⟩
abbrev cX5_doubt : ByteArray := prog_1_method_20_code
def yX5_doubt : MethodName := ⟨RX5, "doubt", "(I)I"⟩
abbrev cX5_stranger : ByteArray := prog_1_method_21_code
def yX5_stranger : MethodName := ⟨RX5, "stranger", "(I)I"⟩
abbrev cX5_nearest : ByteArray := prog_1_method_22_code
def yX5_nearest : MethodName := ⟨RX5, "nearest", "()I"⟩
abbrev cX5_passed : ByteArray := prog_1_method_23_code
def yX5_passed : MethodName := ⟨RX5, "passed", "(I)I"⟩
abbrev cX5_heard : ByteArray := prog_1_method_24_code
def yX5_heard : MethodName := ⟨RX5, "heard", "(I)I"⟩
abbrev cX5_groups : ByteArray := prog_1_method_25_code
def yX5_groups : MethodName := ⟨RX5, "groups", "(I)I"⟩
abbrev cX5_middle : ByteArray := prog_1_method_26_code
def yX5_middle : MethodName := ⟨RX5, "middle", "(I)I"⟩
abbrev cX5_wind : ByteArray := prog_1_method_27_code
def yX5_wind : MethodName := ⟨RX5, "wind", "(III)J"⟩
abbrev cX5_mean : ByteArray := prog_1_method_28_code
def yX5_mean : MethodName := ⟨RX5, "mean", "(I)J"⟩
abbrev cX5_two : ByteArray := prog_1_method_29_code
def yX5_two : MethodName := ⟨RX5, "two", "(III)I"⟩
abbrev cX5_whatIs : ByteArray := prog_1_method_30_code
def yX5_whatIs : MethodName := ⟨RX5, "whatIs", "(II)I"⟩
abbrev cX5_who : ByteArray := prog_1_method_31_code
def yX5_who : MethodName := ⟨RX5, "who", "()I"⟩
abbrev cX5_row : ByteArray := prog_1_method_32_code
def yX5_row : MethodName := ⟨RX5, "row", "(I)I"⟩
abbrev cX5_judge : ByteArray := prog_1_method_33_code
def yX5_judge : MethodName := ⟨RX5, "judge", "()I"⟩
abbrev cX5_clear : ByteArray := prog_1_method_34_code
def yX5_clear : MethodName := ⟨RX5, "clear", "()I"⟩
abbrev cX5_lots : ByteArray := prog_1_method_35_code
def yX5_lots : MethodName := ⟨RX5, "lots", "(III)I"⟩
abbrev cX5_image : ByteArray := prog_1_method_36_code
def yX5_image : MethodName := ⟨RX5, "image", "()I"⟩
abbrev cX5_on : ByteArray := prog_1_method_37_code
def yX5_on : MethodName := ⟨RX5, "on", "()I"⟩
abbrev cX5_count : ByteArray := prog_1_method_38_code
def yX5_count : MethodName := ⟨RX5, "count", "(I)I"⟩
abbrev cX5_refuse : ByteArray := prog_1_method_39_code
def yX5_refuse : MethodName := ⟨RX5, "refuse", "(I)I"⟩
abbrev cX5_noPerson : ByteArray := prog_1_method_40_code
def yX5_noPerson : MethodName := ⟨RX5, "noPerson", "(I)I"⟩
abbrev cX5_noCell : ByteArray := prog_1_method_41_code
def yX5_noCell : MethodName := ⟨RX5, "noCell", "(I)I"⟩
abbrev cX5_other : ByteArray := prog_1_method_42_code
def yX5_other : MethodName := ⟨RX5, "other", "(II)I"⟩
abbrev cX5_range : ByteArray := prog_1_method_43_code
def yX5_range : MethodName := ⟨RX5, "range", "(III)I"⟩
abbrev cX5_firstOf : ByteArray := prog_1_method_44_code
def yX5_firstOf : MethodName := ⟨RX5, "firstOf", "(III)I"⟩
abbrev cX5_partOf : ByteArray := prog_1_method_45_code
def yX5_partOf : MethodName := ⟨RX5, "partOf", "(JJI)J"⟩
abbrev cX5_sharedDivisor : ByteArray := prog_1_method_46_code
def yX5_sharedDivisor : MethodName := ⟨RX5, "sharedDivisor", "(JJ)J"⟩
abbrev cX5_apart : ByteArray := prog_1_method_47_code
def yX5_apart : MethodName := ⟨RX5, "apart", "(II)I"⟩
abbrev cX5_isIn : ByteArray := prog_1_method_48_code
def yX5_isIn : MethodName := ⟨RX5, "isIn", "(II)Z"⟩
def RX6 : String := "PicnicOfSomebodyModel"
def TX6 : u_T := fun k => match k with
  | 0 => ("PicnicOfSomebodyModel", "refused", "[I", true)
  | 1 => ("PicnicOfSomebodyModel", "deep", "[I", true)
  | 2 => ("PicnicOfSomebodyModel", "kind", "[I", true)
  | 3 => ("PicnicOfSomebodyModel", "figure", "[I", true)
  | 4 => ("PicnicOfSomebodyModel", "cell", "[I", true)
  | 5 => ("PicnicOfSomebodyModel", "belief", "[I", true)
  | 6 => ("PicnicOfSomebodyModel", "people", "I", false)
  | 7 => ("PicnicOfSomebodyModel", "year", "I", false)
  | 8 => ("PicnicOfSomebodyModel", "gone", "I", false)
  | 9 => ("PicnicOfSomebodyModel", "tape", "[I", true)
  | 10 => ("PicnicOfSomebodyModel", "letter", "[I", true)
  | 11 => ("PicnicOfSomebodyModel", "letterAt", "[I", true)
  | 12 => ("PicnicOfSomebodyModel", "told", "[I", true)
  | 13 => ("PicnicOfSomebodyModel", "taped", "I", false)
  | 14 => ("PicnicOfSomebodyModel", "at", "I", false)
  | 15 => ("PicnicOfSomebodyModel", "statements", "I", false)
  | 16 => ("PicnicOfSomebodyModel", "kept", "[I", true)
  | 17 => ("PicnicOfSomebodyModel", "hasImage", "Z", false)
  | 18 => ("PicnicOfSomebodyModel", "isKeeping", "Z", false)
  | 19 => ("PicnicOfSomebodyModel", "cursor", "I", false)
  | 20 => ("PicnicOfSomebodyModel", "nexts", "[I", true)
  | 21 => ("PicnicOfSomebodyModel", "manyBy", "[I", true)
  | 22 => ("PicnicOfSomebodyModel", "row", "[I", true)
  | 23 => ("PicnicOfSomebodyModel", "rowMany", "I", false)
  | _ => ("PicnicOfSomebodyModel", "lots", "I", false)
def tyX6 : Nat → FieldType := fun k => match k with
  | 0 => .array .int
  | 1 => .array .int
  | 2 => .array .int
  | 3 => .array .int
  | 4 => .array .int
  | 5 => .array .int
  | 6 => .int
  | 7 => .int
  | 8 => .int
  | 9 => .array .int
  | 10 => .array .int
  | 11 => .array .int
  | 12 => .array .int
  | 13 => .int
  | 14 => .int
  | 15 => .int
  | 16 => .array .int
  | 17 => .boolean
  | 18 => .boolean
  | 19 => .int
  | 20 => .array .int
  | 21 => .array .int
  | 22 => .array .int
  | 23 => .int
  | _ => .int
abbrev wsX60 : List Cond := u_ws RX6 TX6 25
theorem nmX6 : ∀ a, a < 25 → ∀ b, b < 25 → a ≠ b → (TX6 a).2.1 ≠ (TX6 b).2.1 := by decide +kernel
theorem tyX6_ok : ∀ k, k < 25 → parseFieldDescriptor (TX6 k).2.2.1 = some (tyX6 k) := by decide +kernel
abbrev cX6_init : ByteArray := prog_8_method_1_code
def yX6_init : MethodName := ⟨RX6, "<init>", "()V"⟩
abbrev cX6_no : ByteArray := prog_8_method_2_code
def yX6_no : MethodName := ⟨RX6, "no", "(I)I"⟩
abbrev cX6_lower : ByteArray := prog_8_method_3_code
def yX6_lower : MethodName := ⟨RX6, "lower", "(I)I"⟩
abbrev cX6_lowest : ByteArray := prog_8_method_4_code
def yX6_lowest : MethodName := ⟨RX6, "lowest", "(I)J"⟩
abbrev cX6_isIn : ByteArray := prog_8_method_5_code
def yX6_isIn : MethodName := ⟨RX6, "isIn", "(III)Z"⟩
abbrev cX6_bound : ByteArray := prog_8_method_6_code
def yX6_bound : MethodName := ⟨RX6, "bound", "(III)I"⟩
abbrev cX6_held : ByteArray := prog_8_method_7_code
def yX6_held : MethodName := ⟨RX6, "held", "(III)I"⟩
abbrev cX6_has : ByteArray := prog_8_method_8_code
def yX6_has : MethodName := ⟨RX6, "has", "(II)Z"⟩
abbrev cX6_bits : ByteArray := prog_8_method_9_code
def yX6_bits : MethodName := ⟨RX6, "bits", "(I)I"⟩
abbrev cX6_isCell : ByteArray := prog_8_method_10_code
def yX6_isCell : MethodName := ⟨RX6, "isCell", "(I)Z"⟩
abbrev cX6_isOne : ByteArray := prog_8_method_11_code
def yX6_isOne : MethodName := ⟨RX6, "isOne", "(I)Z"⟩
abbrev cX6_isThere : ByteArray := prog_8_method_12_code
def yX6_isThere : MethodName := ⟨RX6, "isThere", "(I)Z"⟩
abbrev cX6_letter : ByteArray := prog_8_method_13_code
def yX6_letter : MethodName := ⟨RX6, "letter", "(I)I"⟩
abbrev cX6_next : ByteArray := prog_8_method_14_code
def yX6_next : MethodName := ⟨RX6, "next", "()I"⟩
abbrev cX6_readsDigits : ByteArray := prog_8_method_15_code
def yX6_readsDigits : MethodName := ⟨RX6, "readsDigits", "(II)Z"⟩
abbrev cX6_kindOf : ByteArray := prog_8_method_16_code
def yX6_kindOf : MethodName := ⟨RX6, "kindOf", "(I)I"⟩
abbrev cX6_readsOne : ByteArray := prog_8_method_17_code
def yX6_readsOne : MethodName := ⟨RX6, "readsOne", "(I)Z"⟩
abbrev cX6_readsAll : ByteArray := prog_8_method_18_code
def yX6_readsAll : MethodName := ⟨RX6, "readsAll", "(II)Z"⟩
abbrev cX6_statement : ByteArray := prog_8_method_19_code
def yX6_statement : MethodName := ⟨RX6, "statement", "()Z"⟩
abbrev cX6_adds : ByteArray := prog_8_method_20_code
def yX6_adds : MethodName := ⟨RX6, "adds", "(IIII)V"⟩
abbrev cX6_comesYears : ByteArray := prog_8_method_21_code
def yX6_comesYears : MethodName := ⟨RX6, "comesYears", "(I)Z"⟩
abbrev cX6_comes : ByteArray := prog_8_method_22_code
def yX6_comes : MethodName := ⟨RX6, "comes", "(I)Z"⟩
abbrev cX6_slope : ByteArray := prog_8_method_23_code
def yX6_slope : MethodName := ⟨RX6, "slope", "()I"⟩
abbrev cX6_passes : ByteArray := prog_8_method_24_code
def yX6_passes : MethodName := ⟨RX6, "passes", "([I)V"⟩
abbrev cX6_passOne : ByteArray := prog_8_method_25_code
def yX6_passOne : MethodName := ⟨RX6, "passOne", "(I)I"⟩
abbrev cX6_passesAll : ByteArray := prog_8_method_26_code
def yX6_passesAll : MethodName := ⟨RX6, "passesAll", "(IZ)V"⟩
abbrev cX6_thinks : ByteArray := prog_8_method_27_code
def yX6_thinks : MethodName := ⟨RX6, "thinks", "()V"⟩
abbrev cX6_forgets : ByteArray := prog_8_method_28_code
def yX6_forgets : MethodName := ⟨RX6, "forgets", "()V"⟩
abbrev cX6_image : ByteArray := prog_8_method_29_code
def yX6_image : MethodName := ⟨RX6, "image", "()I"⟩
abbrev cX6_on : ByteArray := prog_8_method_30_code
def yX6_on : MethodName := ⟨RX6, "on", "()I"⟩
abbrev cX6_far : ByteArray := prog_8_method_31_code
def yX6_far : MethodName := ⟨RX6, "far", "(II)I"⟩
abbrev cX6_steps : ByteArray := prog_8_method_32_code
def yX6_steps : MethodName := ⟨RX6, "steps", "(II)I"⟩
abbrev cX6_here : ByteArray := prog_8_method_33_code
def yX6_here : MethodName := ⟨RX6, "here", "()I"⟩
abbrev cX6_believesNow : ByteArray := prog_8_method_34_code
def yX6_believesNow : MethodName := ⟨RX6, "believesNow", "(I)Z"⟩
abbrev cX6_areBeside : ByteArray := prog_8_method_35_code
def yX6_areBeside : MethodName := ⟨RX6, "areBeside", "(II)Z"⟩
abbrev cX6_manyBeside : ByteArray := prog_8_method_36_code
def yX6_manyBeside : MethodName := ⟨RX6, "manyBeside", "(I)I"⟩
abbrev cX6_believersBeside : ByteArray := prog_8_method_37_code
def yX6_believersBeside : MethodName := ⟨RX6, "believersBeside", "(I)I"⟩
abbrev cX6_asGuest : ByteArray := prog_8_method_38_code
def yX6_asGuest : MethodName := ⟨RX6, "asGuest", "(I)I"⟩
abbrev cX6_asFriend : ByteArray := prog_8_method_39_code
def yX6_asFriend : MethodName := ⟨RX6, "asFriend", "(II)I"⟩
abbrev cX6_asChild : ByteArray := prog_8_method_40_code
def yX6_asChild : MethodName := ⟨RX6, "asChild", "(I)I"⟩
abbrev cX6_nextBelief : ByteArray := prog_8_method_41_code
def yX6_nextBelief : MethodName := ⟨RX6, "nextBelief", "(II)I"⟩
abbrev cX6_believersAt : ByteArray := prog_8_method_42_code
def yX6_believersAt : MethodName := ⟨RX6, "believersAt", "(I)I"⟩
abbrev cX6_towards : ByteArray := prog_8_method_43_code
def yX6_towards : MethodName := ⟨RX6, "towards", "(II)I"⟩
abbrev cX6_goesYear : ByteArray := prog_8_method_44_code
def yX6_goesYear : MethodName := ⟨RX6, "goesYear", "(Z)V"⟩
abbrev cX6_goes : ByteArray := prog_8_method_45_code
def yX6_goes : MethodName := ⟨RX6, "goes", "(I)V"⟩
abbrev cX6_believers : ByteArray := prog_8_method_46_code
def yX6_believers : MethodName := ⟨RX6, "believers", "()I"⟩
abbrev cX6_everybody : ByteArray := prog_8_method_47_code
def yX6_everybody : MethodName := ⟨RX6, "everybody", "()I"⟩
abbrev cX6_depth : ByteArray := prog_8_method_48_code
def yX6_depth : MethodName := ⟨RX6, "depth", "(I)I"⟩
abbrev cX6_person : ByteArray := prog_8_method_49_code
def yX6_person : MethodName := ⟨RX6, "person", "(II)I"⟩
abbrev cX6_place : ByteArray := prog_8_method_50_code
def yX6_place : MethodName := ⟨RX6, "place", "()I"⟩
abbrev cX6_digs : ByteArray := prog_8_method_51_code
def yX6_digs : MethodName := ⟨RX6, "digs", "(II)I"⟩
abbrev cX6_believes : ByteArray := prog_8_method_52_code
def yX6_believes : MethodName := ⟨RX6, "believes", "(II)I"⟩
abbrev cX6_sits : ByteArray := prog_8_method_53_code
def yX6_sits : MethodName := ⟨RX6, "sits", "(II)I"⟩
abbrev cX6_turn : ByteArray := prog_8_method_54_code
def yX6_turn : MethodName := ⟨RX6, "turn", "(III)I"⟩
abbrev cX6_years : ByteArray := prog_8_method_55_code
def yX6_years : MethodName := ⟨RX6, "years", "(I)I"⟩
abbrev cX6_notYears : ByteArray := prog_8_method_56_code
def yX6_notYears : MethodName := ⟨RX6, "notYears", "(I)I"⟩
abbrev cX6_behind : ByteArray := prog_8_method_57_code
def yX6_behind : MethodName := ⟨RX6, "behind", "(III)I"⟩
abbrev cX6_believersIn : ByteArray := prog_8_method_58_code
def yX6_believersIn : MethodName := ⟨RX6, "believersIn", "(I)I"⟩
abbrev cX6_then : ByteArray := prog_8_method_59_code
def yX6_then : MethodName := ⟨RX6, "then", "(II)I"⟩
abbrev cX6_depthThen : ByteArray := prog_8_method_60_code
def yX6_depthThen : MethodName := ⟨RX6, "depthThen", "(II)I"⟩
abbrev cX6_isSettled : ByteArray := prog_8_method_61_code
def yX6_isSettled : MethodName := ⟨RX6, "isSettled", "()Z"⟩
abbrev cX6_isFirst : ByteArray := prog_8_method_62_code
def yX6_isFirst : MethodName := ⟨RX6, "isFirst", "(II)Z"⟩
abbrev cX6_first : ByteArray := prog_8_method_63_code
def yX6_first : MethodName := ⟨RX6, "first", "(I)I"⟩
abbrev cX6_notShort : ByteArray := prog_8_method_64_code
def yX6_notShort : MethodName := ⟨RX6, "notShort", "(I)I"⟩
abbrev cX6_believersIf : ByteArray := prog_8_method_65_code
def yX6_believersIf : MethodName := ⟨RX6, "believersIf", "(II)I"⟩
abbrev cX6_makes : ByteArray := prog_8_method_66_code
def yX6_makes : MethodName := ⟨RX6, "makes", "(I)I"⟩
abbrev cX6_believersWithout : ByteArray := prog_8_method_67_code
def yX6_believersWithout : MethodName := ⟨RX6, "believersWithout", "(II)I"⟩
abbrev cX6_leaves : ByteArray := prog_8_method_68_code
def yX6_leaves : MethodName := ⟨RX6, "leaves", "(I)I"⟩
abbrev cX6_ask : ByteArray := prog_8_method_69_code
def yX6_ask : MethodName := ⟨RX6, "ask", "(I)I"⟩
abbrev cX6_beliefFrom : ByteArray := prog_8_method_70_code
def yX6_beliefFrom : MethodName := ⟨RX6, "beliefFrom", "(III)I"⟩
abbrev cX6_sit : ByteArray := prog_8_method_71_code
def yX6_sit : MethodName := ⟨RX6, "sit", "(III)I"⟩
abbrev cX6_doubt : ByteArray := prog_8_method_72_code
def yX6_doubt : MethodName := ⟨RX6, "doubt", "(I)I"⟩
abbrev cX6_stranger : ByteArray := prog_8_method_73_code
def yX6_stranger : MethodName := ⟨RX6, "stranger", "(I)I"⟩
abbrev cX6_nearest : ByteArray := prog_8_method_74_code
def yX6_nearest : MethodName := ⟨RX6, "nearest", "()I"⟩
abbrev cX6_passed : ByteArray := prog_8_method_75_code
def yX6_passed : MethodName := ⟨RX6, "passed", "(I)I"⟩
abbrev cX6_chainOf : ByteArray := prog_8_method_76_code
def yX6_chainOf : MethodName := ⟨RX6, "chainOf", "(I)I"⟩
abbrev cX6_heard : ByteArray := prog_8_method_77_code
def yX6_heard : MethodName := ⟨RX6, "heard", "(I)I"⟩
abbrev cX6_groups : ByteArray := prog_8_method_78_code
def yX6_groups : MethodName := ⟨RX6, "groups", "(I)I"⟩
abbrev cX6_stepsTo : ByteArray := prog_8_method_79_code
def yX6_stepsTo : MethodName := ⟨RX6, "stepsTo", "(I)I"⟩
abbrev cX6_middle : ByteArray := prog_8_method_80_code
def yX6_middle : MethodName := ⟨RX6, "middle", "(I)I"⟩
abbrev cX6_divisor : ByteArray := prog_8_method_81_code
def yX6_divisor : MethodName := ⟨RX6, "divisor", "(JJ)J"⟩
abbrev cX6_partOf : ByteArray := prog_8_method_82_code
def yX6_partOf : MethodName := ⟨RX6, "partOf", "(JJI)J"⟩
abbrev cX6_wind : ByteArray := prog_8_method_83_code
def yX6_wind : MethodName := ⟨RX6, "wind", "(III)J"⟩
abbrev cX6_mean : ByteArray := prog_8_method_84_code
def yX6_mean : MethodName := ⟨RX6, "mean", "(I)J"⟩
abbrev cX6_manyIf : ByteArray := prog_8_method_85_code
def yX6_manyIf : MethodName := ⟨RX6, "manyIf", "(IIIII)I"⟩
abbrev cX6_two : ByteArray := prog_8_method_86_code
def yX6_two : MethodName := ⟨RX6, "two", "(III)I"⟩
abbrev cX6_isSo : ByteArray := prog_8_method_87_code
def yX6_isSo : MethodName := ⟨RX6, "isSo", "(I)Z"⟩
abbrev cX6_bitsFor : ByteArray := prog_8_method_88_code
def yX6_bitsFor : MethodName := ⟨RX6, "bitsFor", "([III)I"⟩
abbrev cX6_whatIs : ByteArray := prog_8_method_89_code
def yX6_whatIs : MethodName := ⟨RX6, "whatIs", "(II)I"⟩
abbrev cX6_areSoMany : ByteArray := prog_8_method_90_code
def yX6_areSoMany : MethodName := ⟨RX6, "areSoMany", "()Z"⟩
abbrev cX6_who : ByteArray := prog_8_method_91_code
def yX6_who : MethodName := ⟨RX6, "who", "()I"⟩
abbrev cX6_row : ByteArray := prog_8_method_92_code
def yX6_row : MethodName := ⟨RX6, "row", "(I)I"⟩
abbrev cX6_judge : ByteArray := prog_8_method_93_code
def yX6_judge : MethodName := ⟨RX6, "judge", "()I"⟩
abbrev cX6_clear : ByteArray := prog_8_method_94_code
def yX6_clear : MethodName := ⟨RX6, "clear", "()I"⟩
abbrev cX6_draw : ByteArray := prog_8_method_95_code
def yX6_draw : MethodName := ⟨RX6, "draw", "(I)I"⟩
abbrev cX6_allBelief : ByteArray := prog_8_method_96_code
def yX6_allBelief : MethodName := ⟨RX6, "allBelief", "()I"⟩
abbrev cX6_lots : ByteArray := prog_8_method_97_code
def yX6_lots : MethodName := ⟨RX6, "lots", "(III)I"⟩
abbrev cX6_count : ByteArray := prog_8_method_98_code
def yX6_count : MethodName := ⟨RX6, "count", "(I)I"⟩
def RJ6 : String := "java/lang/Integer"
def TJ6 : u_T := fun k => match k with
  | _ => ("", "", "", false)
def tyJ6 : Nat → FieldType := fun k => match k with
  | _ => .int
abbrev wsJ60 : List Cond := u_ws RJ6 TJ6 0
theorem nmJ6 : ∀ a, a < 0 → ∀ b, b < 0 → a ≠ b → (TJ6 a).2.1 ≠ (TJ6 b).2.1 := by decide +kernel
theorem tyJ6_ok : ∀ k, k < 0 → parseFieldDescriptor (TJ6 k).2.2.1 = some (tyJ6 k) := by decide +kernel
abbrev cJ6_compare_7cf53 : ByteArray := prog_9_method_40_code
def yJ6_compare_7cf53 : MethodName := ⟨RJ6, "compare", "(II)I"⟩
abbrev cJ6_bitCount_0f7a4 : ByteArray := prog_9_method_49_code
def yJ6_bitCount_0f7a4 : MethodName := ⟨RJ6, "bitCount", "(I)I"⟩
def RJ9 : String := "java/lang/Math"
def TJ9 : u_T := fun k => match k with
  | _ => ("", "", "", false)
def tyJ9 : Nat → FieldType := fun k => match k with
  | _ => .int
abbrev wsJ90 : List Cond := u_ws RJ9 TJ9 0
theorem nmJ9 : ∀ a, a < 0 → ∀ b, b < 0 → a ≠ b → (TJ9 a).2.1 ≠ (TJ9 b).2.1 := by decide +kernel
theorem tyJ9_ok : ∀ k, k < 0 → parseFieldDescriptor (TJ9 k).2.2.1 = some (tyJ9 k) := by decide +kernel
abbrev cJ9_max_7cf53 : ByteArray := prog_10_method_65_code
def yJ9_max_7cf53 : MethodName := ⟨RJ9, "max", "(II)I"⟩
abbrev cJ9_min_7cf53 : ByteArray := prog_10_method_69_code
def yJ9_min_7cf53 : MethodName := ⟨RJ9, "min", "(II)I"⟩
def RJ10 : String := "java/lang/System"
def TJ10 : u_T := fun k => match k with
  | _ => ("", "", "", false)
def tyJ10 : Nat → FieldType := fun k => match k with
  | _ => .int
abbrev wsJ100 : List Cond := u_ws RJ10 TJ10 0
theorem nmJ10 : ∀ a, a < 0 → ∀ b, b < 0 → a ≠ b → (TJ10 a).2.1 ≠ (TJ10 b).2.1 := by decide +kernel
theorem tyJ10_ok : ∀ k, k < 0 → parseFieldDescriptor (TJ10 k).2.2.1 = some (tyJ10 k) := by decide +kernel
def RL : String := "PicnicOfSomebodyLaw"
abbrev cL_law : ByteArray := code
def yL_law : MethodName := ⟨RL, "law", "([I)Z"⟩
