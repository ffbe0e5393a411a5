section
-- ===== PART A: goes FIRST, ahead of the names: the tables' words, and 'selects' of the private methods out of them =====
/-- a private method of a class that the tables say can be made, by its rows of tables_1 -/
def lw_okq (q : MethodName × Nat) : Prop := (q.1.cls ≠ "java/lang/invoke/MethodHandle" ∧ q.1.cls ≠ "java/lang/invoke/VarHandle") ∧ Cond.instantiable q.1.cls q.2 ∈ tables_1 ∧ Cond.privateMethod q.1 ∈ tables_1 ∧ Cond.instanceMethod q.1 ∈ tables_1
theorem lw_p0 : lw_okq (⟨"EachLendsHisFace", "refuse", "(I)I"⟩, 11) := ⟨⟨by decide +kernel, by decide +kernel⟩, List.mem_of_getElem? (i := 18) (by decide +kernel), List.mem_of_getElem? (i := 181) (by decide +kernel), List.mem_of_getElem? (i := 182) (by decide +kernel)⟩
theorem lw_p1 : lw_okq (⟨"EachLendsHisFace$Telling", "brokenPlace", "()I"⟩, 2) := ⟨⟨by decide +kernel, by decide +kernel⟩, List.mem_of_getElem? (i := 117) (by decide +kernel), List.mem_of_getElem? (i := 201) (by decide +kernel), List.mem_of_getElem? (i := 202) (by decide +kernel)⟩
theorem lw_p2 : lw_okq (⟨"EachLendsHisFace$Telling", "comesTo", "(LEachLendsHisFace$Town;I)Z"⟩, 2) := ⟨⟨by decide +kernel, by decide +kernel⟩, List.mem_of_getElem? (i := 117) (by decide +kernel), List.mem_of_getElem? (i := 331) (by decide +kernel), List.mem_of_getElem? (i := 332) (by decide +kernel)⟩
theorem lw_p3 : lw_okq (⟨"EachLendsHisFace$Telling", "signAt", "(I)I"⟩, 2) := ⟨⟨by decide +kernel, by decide +kernel⟩, List.mem_of_getElem? (i := 117) (by decide +kernel), List.mem_of_getElem? (i := 335) (by decide +kernel), List.mem_of_getElem? (i := 336) (by decide +kernel)⟩
theorem lw_p4 : lw_okq (⟨"EachLendsHisFace$Telling", "digitAt", "(I)I"⟩, 2) := ⟨⟨by decide +kernel, by decide +kernel⟩, List.mem_of_getElem? (i := 117) (by decide +kernel), List.mem_of_getElem? (i := 339) (by decide +kernel), List.mem_of_getElem? (i := 340) (by decide +kernel)⟩
theorem lw_p5 : lw_okq (⟨"EachLendsHisFace$Telling", "twoDigitsAt", "(I)I"⟩, 2) := ⟨⟨by decide +kernel, by decide +kernel⟩, List.mem_of_getElem? (i := 117) (by decide +kernel), List.mem_of_getElem? (i := 388) (by decide +kernel), List.mem_of_getElem? (i := 389) (by decide +kernel)⟩
theorem lw_p6 : lw_okq (⟨"EachLendsHisFace$Town", "wearForAMonth", "(I)V"⟩, 10) := ⟨⟨by decide +kernel, by decide +kernel⟩, List.mem_of_getElem? (i := 69) (by decide +kernel), List.mem_of_getElem? (i := 403) (by decide +kernel), List.mem_of_getElem? (i := 404) (by decide +kernel)⟩
theorem lw_p7 : lw_okq (⟨"EachLendsHisFace$Town", "keepLentForAMonth", "(I)V"⟩, 10) := ⟨⟨by decide +kernel, by decide +kernel⟩, List.mem_of_getElem? (i := 69) (by decide +kernel), List.mem_of_getElem? (i := 455) (by decide +kernel), List.mem_of_getElem? (i := 456) (by decide +kernel)⟩
theorem lw_p8 : lw_okq (⟨"EachLendsHisFace", "personFault", "(I)I"⟩, 11) := ⟨⟨by decide +kernel, by decide +kernel⟩, List.mem_of_getElem? (i := 18) (by decide +kernel), List.mem_of_getElem? (i := 466) (by decide +kernel), List.mem_of_getElem? (i := 467) (by decide +kernel)⟩
theorem lw_p9 : lw_okq (⟨"EachLendsHisFace", "refuseFarOff", "(I)I"⟩, 11) := ⟨⟨by decide +kernel, by decide +kernel⟩, List.mem_of_getElem? (i := 18) (by decide +kernel), List.mem_of_getElem? (i := 486) (by decide +kernel), List.mem_of_getElem? (i := 487) (by decide +kernel)⟩
theorem lw_p10 : lw_okq (⟨"EachLendsHisFace", "twoFault", "(II)I"⟩, 11) := ⟨⟨by decide +kernel, by decide +kernel⟩, List.mem_of_getElem? (i := 18) (by decide +kernel), List.mem_of_getElem? (i := 499) (by decide +kernel), List.mem_of_getElem? (i := 500) (by decide +kernel)⟩
theorem lw_p11 : lw_okq (⟨"EachLendsHisFace", "think", "(I)V"⟩, 11) := ⟨⟨by decide +kernel, by decide +kernel⟩, List.mem_of_getElem? (i := 18) (by decide +kernel), List.mem_of_getElem? (i := 544) (by decide +kernel), List.mem_of_getElem? (i := 545) (by decide +kernel)⟩
theorem lw_p12 : lw_okq (⟨"EachLendsHisFace", "monthsTillHome", "()I"⟩, 11) := ⟨⟨by decide +kernel, by decide +kernel⟩, List.mem_of_getElem? (i := 18) (by decide +kernel), List.mem_of_getElem? (i := 556) (by decide +kernel), List.mem_of_getElem? (i := 557) (by decide +kernel)⟩
theorem lw_p13 : lw_okq (⟨"EachLendsHisFace", "firstWithoutFame", "(I)I"⟩, 11) := ⟨⟨by decide +kernel, by decide +kernel⟩, List.mem_of_getElem? (i := 18) (by decide +kernel), List.mem_of_getElem? (i := 564) (by decide +kernel), List.mem_of_getElem? (i := 565) (by decide +kernel)⟩
theorem lw_p14 : lw_okq (⟨"EachLendsHisFace", "bestPartner", "(IIZI)I"⟩, 11) := ⟨⟨by decide +kernel, by decide +kernel⟩, List.mem_of_getElem? (i := 18) (by decide +kernel), List.mem_of_getElem? (i := 623) (by decide +kernel), List.mem_of_getElem? (i := 624) (by decide +kernel)⟩
theorem lw_p15 : lw_okq (⟨"EachLendsHisFace", "thinkOfLending", "(III)V"⟩, 11) := ⟨⟨by decide +kernel, by decide +kernel⟩, List.mem_of_getElem? (i := 18) (by decide +kernel), List.mem_of_getElem? (i := 627) (by decide +kernel), List.mem_of_getElem? (i := 628) (by decide +kernel)⟩
def lw_privs_1 : List (MethodName × Nat) := [(⟨"EachLendsHisFace", "refuse", "(I)I"⟩, 11), (⟨"EachLendsHisFace$Telling", "brokenPlace", "()I"⟩, 2), (⟨"EachLendsHisFace$Telling", "comesTo", "(LEachLendsHisFace$Town;I)Z"⟩, 2), (⟨"EachLendsHisFace$Telling", "signAt", "(I)I"⟩, 2), (⟨"EachLendsHisFace$Telling", "digitAt", "(I)I"⟩, 2), (⟨"EachLendsHisFace$Telling", "twoDigitsAt", "(I)I"⟩, 2), (⟨"EachLendsHisFace$Town", "wearForAMonth", "(I)V"⟩, 10), (⟨"EachLendsHisFace$Town", "keepLentForAMonth", "(I)V"⟩, 10), (⟨"EachLendsHisFace", "personFault", "(I)I"⟩, 11), (⟨"EachLendsHisFace", "refuseFarOff", "(I)I"⟩, 11), (⟨"EachLendsHisFace", "twoFault", "(II)I"⟩, 11), (⟨"EachLendsHisFace", "think", "(I)V"⟩, 11), (⟨"EachLendsHisFace", "monthsTillHome", "()I"⟩, 11), (⟨"EachLendsHisFace", "firstWithoutFame", "(I)I"⟩, 11), (⟨"EachLendsHisFace", "bestPartner", "(IIZI)I"⟩, 11), (⟨"EachLendsHisFace", "thinkOfLending", "(III)V"⟩, 11)]
theorem lw_r1 : ∀ q ∈ lw_privs_1, lw_okq q := List.forall_mem_cons.mpr ⟨lw_p0, List.forall_mem_cons.mpr ⟨lw_p1, List.forall_mem_cons.mpr ⟨lw_p2, List.forall_mem_cons.mpr ⟨lw_p3, List.forall_mem_cons.mpr ⟨lw_p4, List.forall_mem_cons.mpr ⟨lw_p5, List.forall_mem_cons.mpr ⟨lw_p6, List.forall_mem_cons.mpr ⟨lw_p7, List.forall_mem_cons.mpr ⟨lw_p8, List.forall_mem_cons.mpr ⟨lw_p9, List.forall_mem_cons.mpr ⟨lw_p10, List.forall_mem_cons.mpr ⟨lw_p11, List.forall_mem_cons.mpr ⟨lw_p12, List.forall_mem_cons.mpr ⟨lw_p13, List.forall_mem_cons.mpr ⟨lw_p14, List.forall_mem_cons.mpr ⟨lw_p15, fun _ h => absurd h List.not_mem_nil⟩⟩⟩⟩⟩⟩⟩⟩⟩⟩⟩⟩⟩⟩⟩⟩
theorem lw_p16 : lw_okq (⟨"EachLendsHisFace$Town", "sumOf", "([I)I"⟩, 10) := ⟨⟨by decide +kernel, by decide +kernel⟩, List.mem_of_getElem? (i := 69) (by decide +kernel), List.mem_of_getElem? (i := 647) (by decide +kernel), List.mem_of_getElem? (i := 648) (by decide +kernel)⟩
theorem lw_p17 : lw_okq (⟨"EachLendsHisFace", "findFree", "()I"⟩, 11) := ⟨⟨by decide +kernel, by decide +kernel⟩, List.mem_of_getElem? (i := 18) (by decide +kernel), List.mem_of_getElem? (i := 659) (by decide +kernel), List.mem_of_getElem? (i := 660) (by decide +kernel)⟩
theorem lw_p18 : lw_okq (⟨"EachLendsHisFace", "worthsOfLot", "(II)I"⟩, 11) := ⟨⟨by decide +kernel, by decide +kernel⟩, List.mem_of_getElem? (i := 18) (by decide +kernel), List.mem_of_getElem? (i := 663) (by decide +kernel), List.mem_of_getElem? (i := 664) (by decide +kernel)⟩
theorem lw_p19 : lw_okq (⟨"EachLendsHisFace", "firstLenderBringing", "(II)I"⟩, 11) := ⟨⟨by decide +kernel, by decide +kernel⟩, List.mem_of_getElem? (i := 18) (by decide +kernel), List.mem_of_getElem? (i := 671) (by decide +kernel), List.mem_of_getElem? (i := 672) (by decide +kernel)⟩
theorem lw_p20 : lw_okq (⟨"EachLendsHisFace", "firstSettledChoice", "()I"⟩, 11) := ⟨⟨by decide +kernel, by decide +kernel⟩, List.mem_of_getElem? (i := 18) (by decide +kernel), List.mem_of_getElem? (i := 679) (by decide +kernel), List.mem_of_getElem? (i := 680) (by decide +kernel)⟩
theorem lw_p21 : lw_okq (⟨"EachLendsHisFace", "refuseLong", "(I)J"⟩, 11) := ⟨⟨by decide +kernel, by decide +kernel⟩, List.mem_of_getElem? (i := 18) (by decide +kernel), List.mem_of_getElem? (i := 687) (by decide +kernel), List.mem_of_getElem? (i := 688) (by decide +kernel)⟩
theorem lw_p22 : lw_okq (⟨"EachLendsHisFace", "wearingFits", "(II)Z"⟩, 11) := ⟨⟨by decide +kernel, by decide +kernel⟩, List.mem_of_getElem? (i := 18) (by decide +kernel), List.mem_of_getElem? (i := 725) (by decide +kernel), List.mem_of_getElem? (i := 726) (by decide +kernel)⟩
theorem lw_p23 : lw_okq (⟨"EachLendsHisFace", "mindFits", "(I)Z"⟩, 11) := ⟨⟨by decide +kernel, by decide +kernel⟩, List.mem_of_getElem? (i := 18) (by decide +kernel), List.mem_of_getElem? (i := 735) (by decide +kernel), List.mem_of_getElem? (i := 736) (by decide +kernel)⟩
theorem lw_p24 : lw_okq (⟨"EachLendsHisFace", "drawTown", "(I)I"⟩, 11) := ⟨⟨by decide +kernel, by decide +kernel⟩, List.mem_of_getElem? (i := 18) (by decide +kernel), List.mem_of_getElem? (i := 743) (by decide +kernel), List.mem_of_getElem? (i := 744) (by decide +kernel)⟩
theorem lw_p25 : lw_okq (⟨"EachLendsHisFaceModel", "no", "(I)I"⟩, 14) := ⟨⟨by decide +kernel, by decide +kernel⟩, List.mem_of_getElem? (i := 769) (by decide +kernel), List.mem_of_getElem? (i := 822) (by decide +kernel), List.mem_of_getElem? (i := 823) (by decide +kernel)⟩
theorem lw_p26 : lw_okq (⟨"EachLendsHisFaceModel", "readsStatement", "()Z"⟩, 14) := ⟨⟨by decide +kernel, by decide +kernel⟩, List.mem_of_getElem? (i := 769) (by decide +kernel), List.mem_of_getElem? (i := 830) (by decide +kernel), List.mem_of_getElem? (i := 831) (by decide +kernel)⟩
theorem lw_p27 : lw_okq (⟨"EachLendsHisFaceModel", "here", "()I"⟩, 14) := ⟨⟨by decide +kernel, by decide +kernel⟩, List.mem_of_getElem? (i := 769) (by decide +kernel), List.mem_of_getElem? (i := 834) (by decide +kernel), List.mem_of_getElem? (i := 835) (by decide +kernel)⟩
theorem lw_p28 : lw_okq (⟨"EachLendsHisFaceModel", "readsKind", "()Z"⟩, 14) := ⟨⟨by decide +kernel, by decide +kernel⟩, List.mem_of_getElem? (i := 769) (by decide +kernel), List.mem_of_getElem? (i := 838) (by decide +kernel), List.mem_of_getElem? (i := 839) (by decide +kernel)⟩
theorem lw_p29 : lw_okq (⟨"EachLendsHisFaceModel", "readsNumber", "(II)Z"⟩, 14) := ⟨⟨by decide +kernel, by decide +kernel⟩, List.mem_of_getElem? (i := 769) (by decide +kernel), List.mem_of_getElem? (i := 845) (by decide +kernel), List.mem_of_getElem? (i := 846) (by decide +kernel)⟩
theorem lw_p30 : lw_okq (⟨"EachLendsHisFaceModel", "isDone", "(I)Z"⟩, 14) := ⟨⟨by decide +kernel, by decide +kernel⟩, List.mem_of_getElem? (i := 769) (by decide +kernel), List.mem_of_getElem? (i := 855) (by decide +kernel), List.mem_of_getElem? (i := 856) (by decide +kernel)⟩
theorem lw_p31 : lw_okq (⟨"EachLendsHisFaceModel", "adds", "(II)Z"⟩, 14) := ⟨⟨by decide +kernel, by decide +kernel⟩, List.mem_of_getElem? (i := 769) (by decide +kernel), List.mem_of_getElem? (i := 859) (by decide +kernel), List.mem_of_getElem? (i := 860) (by decide +kernel)⟩
def lw_privs_2 : List (MethodName × Nat) := [(⟨"EachLendsHisFace$Town", "sumOf", "([I)I"⟩, 10), (⟨"EachLendsHisFace", "findFree", "()I"⟩, 11), (⟨"EachLendsHisFace", "worthsOfLot", "(II)I"⟩, 11), (⟨"EachLendsHisFace", "firstLenderBringing", "(II)I"⟩, 11), (⟨"EachLendsHisFace", "firstSettledChoice", "()I"⟩, 11), (⟨"EachLendsHisFace", "refuseLong", "(I)J"⟩, 11), (⟨"EachLendsHisFace", "wearingFits", "(II)Z"⟩, 11), (⟨"EachLendsHisFace", "mindFits", "(I)Z"⟩, 11), (⟨"EachLendsHisFace", "drawTown", "(I)I"⟩, 11), (⟨"EachLendsHisFaceModel", "no", "(I)I"⟩, 14), (⟨"EachLendsHisFaceModel", "readsStatement", "()Z"⟩, 14), (⟨"EachLendsHisFaceModel", "here", "()I"⟩, 14), (⟨"EachLendsHisFaceModel", "readsKind", "()Z"⟩, 14), (⟨"EachLendsHisFaceModel", "readsNumber", "(II)Z"⟩, 14), (⟨"EachLendsHisFaceModel", "isDone", "(I)Z"⟩, 14), (⟨"EachLendsHisFaceModel", "adds", "(II)Z"⟩, 14)]
theorem lw_r2 : ∀ q ∈ lw_privs_2, lw_okq q := List.forall_mem_cons.mpr ⟨lw_p16, List.forall_mem_cons.mpr ⟨lw_p17, List.forall_mem_cons.mpr ⟨lw_p18, List.forall_mem_cons.mpr ⟨lw_p19, List.forall_mem_cons.mpr ⟨lw_p20, List.forall_mem_cons.mpr ⟨lw_p21, List.forall_mem_cons.mpr ⟨lw_p22, List.forall_mem_cons.mpr ⟨lw_p23, List.forall_mem_cons.mpr ⟨lw_p24, List.forall_mem_cons.mpr ⟨lw_p25, List.forall_mem_cons.mpr ⟨lw_p26, List.forall_mem_cons.mpr ⟨lw_p27, List.forall_mem_cons.mpr ⟨lw_p28, List.forall_mem_cons.mpr ⟨lw_p29, List.forall_mem_cons.mpr ⟨lw_p30, List.forall_mem_cons.mpr ⟨lw_p31, fun _ h => absurd h List.not_mem_nil⟩⟩⟩⟩⟩⟩⟩⟩⟩⟩⟩⟩⟩⟩⟩⟩
theorem lw_p32 : lw_okq (⟨"EachLendsHisFaceModel", "areTwo", "(II)Z"⟩, 14) := ⟨⟨by decide +kernel, by decide +kernel⟩, List.mem_of_getElem? (i := 769) (by decide +kernel), List.mem_of_getElem? (i := 866) (by decide +kernel), List.mem_of_getElem? (i := 867) (by decide +kernel)⟩
theorem lw_p33 : lw_okq (⟨"EachLendsHisFaceModel", "isOne", "(I)Z"⟩, 14) := ⟨⟨by decide +kernel, by decide +kernel⟩, List.mem_of_getElem? (i := 769) (by decide +kernel), List.mem_of_getElem? (i := 870) (by decide +kernel), List.mem_of_getElem? (i := 871) (by decide +kernel)⟩
theorem lw_p34 : lw_okq (⟨"EachLendsHisFaceModel", "noFar", "(I)I"⟩, 14) := ⟨⟨by decide +kernel, by decide +kernel⟩, List.mem_of_getElem? (i := 769) (by decide +kernel), List.mem_of_getElem? (i := 928) (by decide +kernel), List.mem_of_getElem? (i := 929) (by decide +kernel)⟩
theorem lw_p35 : lw_okq (⟨"EachLendsHisFaceModel", "meetsOne", "(II)I"⟩, 14) := ⟨⟨by decide +kernel, by decide +kernel⟩, List.mem_of_getElem? (i := 769) (by decide +kernel), List.mem_of_getElem? (i := 982) (by decide +kernel), List.mem_of_getElem? (i := 983) (by decide +kernel)⟩
theorem lw_p36 : lw_okq (⟨"EachLendsHisFaceModel", "wrongLend", "(II)I"⟩, 14) := ⟨⟨by decide +kernel, by decide +kernel⟩, List.mem_of_getElem? (i := 769) (by decide +kernel), List.mem_of_getElem? (i := 998) (by decide +kernel), List.mem_of_getElem? (i := 999) (by decide +kernel)⟩
theorem lw_p37 : lw_okq (⟨"EachLendsHisFaceModel", "worthNow", "(II)I"⟩, 14) := ⟨⟨by decide +kernel, by decide +kernel⟩, List.mem_of_getElem? (i := 769) (by decide +kernel), List.mem_of_getElem? (i := 1002) (by decide +kernel), List.mem_of_getElem? (i := 1003) (by decide +kernel)⟩
theorem lw_p38 : lw_okq (⟨"EachLendsHisFaceModel", "worthBehind", "(II)I"⟩, 14) := ⟨⟨by decide +kernel, by decide +kernel⟩, List.mem_of_getElem? (i := 769) (by decide +kernel), List.mem_of_getElem? (i := 1006) (by decide +kernel), List.mem_of_getElem? (i := 1007) (by decide +kernel)⟩
theorem lw_p39 : lw_okq (⟨"EachLendsHisFaceModel", "pairsBy", "(I)I"⟩, 14) := ⟨⟨by decide +kernel, by decide +kernel⟩, List.mem_of_getElem? (i := 769) (by decide +kernel), List.mem_of_getElem? (i := 1032) (by decide +kernel), List.mem_of_getElem? (i := 1033) (by decide +kernel)⟩
theorem lw_p40 : lw_okq (⟨"EachLendsHisFaceModel", "isFamedBehind", "([III)Z"⟩, 14) := ⟨⟨by decide +kernel, by decide +kernel⟩, List.mem_of_getElem? (i := 769) (by decide +kernel), List.mem_of_getElem? (i := 1041) (by decide +kernel), List.mem_of_getElem? (i := 1042) (by decide +kernel)⟩
theorem lw_p41 : lw_okq (⟨"EachLendsHisFaceModel", "firstLender", "(III)I"⟩, 14) := ⟨⟨by decide +kernel, by decide +kernel⟩, List.mem_of_getElem? (i := 769) (by decide +kernel), List.mem_of_getElem? (i := 1045) (by decide +kernel), List.mem_of_getElem? (i := 1046) (by decide +kernel)⟩
theorem lw_p42 : lw_okq (⟨"EachLendsHisFaceModel", "canBeBy", "(II)Z"⟩, 14) := ⟨⟨by decide +kernel, by decide +kernel⟩, List.mem_of_getElem? (i := 769) (by decide +kernel), List.mem_of_getElem? (i := 1049) (by decide +kernel), List.mem_of_getElem? (i := 1050) (by decide +kernel)⟩
theorem lw_p43 : lw_okq (⟨"EachLendsHisFaceModel", "worthBoth", "(IIIIII)I"⟩, 14) := ⟨⟨by decide +kernel, by decide +kernel⟩, List.mem_of_getElem? (i := 769) (by decide +kernel), List.mem_of_getElem? (i := 1069) (by decide +kernel), List.mem_of_getElem? (i := 1070) (by decide +kernel)⟩
theorem lw_p44 : lw_okq (⟨"EachLendsHisFaceModel", "noWide", "(I)J"⟩, 14) := ⟨⟨by decide +kernel, by decide +kernel⟩, List.mem_of_getElem? (i := 769) (by decide +kernel), List.mem_of_getElem? (i := 1077) (by decide +kernel), List.mem_of_getElem? (i := 1078) (by decide +kernel)⟩
theorem lw_p45 : lw_okq (⟨"EachLendsHisFaceModel", "drawn", "(I)I"⟩, 14) := ⟨⟨by decide +kernel, by decide +kernel⟩, List.mem_of_getElem? (i := 769) (by decide +kernel), List.mem_of_getElem? (i := 1115) (by decide +kernel), List.mem_of_getElem? (i := 1116) (by decide +kernel)⟩
def lw_privs_3 : List (MethodName × Nat) := [(⟨"EachLendsHisFaceModel", "areTwo", "(II)Z"⟩, 14), (⟨"EachLendsHisFaceModel", "isOne", "(I)Z"⟩, 14), (⟨"EachLendsHisFaceModel", "noFar", "(I)I"⟩, 14), (⟨"EachLendsHisFaceModel", "meetsOne", "(II)I"⟩, 14), (⟨"EachLendsHisFaceModel", "wrongLend", "(II)I"⟩, 14), (⟨"EachLendsHisFaceModel", "worthNow", "(II)I"⟩, 14), (⟨"EachLendsHisFaceModel", "worthBehind", "(II)I"⟩, 14), (⟨"EachLendsHisFaceModel", "pairsBy", "(I)I"⟩, 14), (⟨"EachLendsHisFaceModel", "isFamedBehind", "([III)Z"⟩, 14), (⟨"EachLendsHisFaceModel", "firstLender", "(III)I"⟩, 14), (⟨"EachLendsHisFaceModel", "canBeBy", "(II)Z"⟩, 14), (⟨"EachLendsHisFaceModel", "worthBoth", "(IIIIII)I"⟩, 14), (⟨"EachLendsHisFaceModel", "noWide", "(I)J"⟩, 14), (⟨"EachLendsHisFaceModel", "drawn", "(I)I"⟩, 14)]
theorem lw_r3 : ∀ q ∈ lw_privs_3, lw_okq q := List.forall_mem_cons.mpr ⟨lw_p32, List.forall_mem_cons.mpr ⟨lw_p33, List.forall_mem_cons.mpr ⟨lw_p34, List.forall_mem_cons.mpr ⟨lw_p35, List.forall_mem_cons.mpr ⟨lw_p36, List.forall_mem_cons.mpr ⟨lw_p37, List.forall_mem_cons.mpr ⟨lw_p38, List.forall_mem_cons.mpr ⟨lw_p39, List.forall_mem_cons.mpr ⟨lw_p40, List.forall_mem_cons.mpr ⟨lw_p41, List.forall_mem_cons.mpr ⟨lw_p42, List.forall_mem_cons.mpr ⟨lw_p43, List.forall_mem_cons.mpr ⟨lw_p44, List.forall_mem_cons.mpr ⟨lw_p45, fun _ h => absurd h List.not_mem_nil⟩⟩⟩⟩⟩⟩⟩⟩⟩⟩⟩⟩⟩⟩
def lw_privs : List (MethodName × Nat) := lw_privs_1 ++ (lw_privs_2 ++ (lw_privs_3))
def lw_tbl : List Cond := k2_sels lw_privs ++ tables_1
theorem lw_privs_ok : ∀ q ∈ lw_privs, lw_okq q := by
  show ∀ q ∈ lw_privs_1 ++ (lw_privs_2 ++ (lw_privs_3)), lw_okq q
  exact List.forall_mem_append.mpr ⟨lw_r1, List.forall_mem_append.mpr ⟨lw_r2, lw_r3⟩⟩
-- ===== end of PART A; then your names; then what follows =====
end
section
/-! ===== BEGIN words of one list among another's, by their places ===== -/
theorem goodIn_r {big : List Cond} (ws : List Cond) (ps : List Nat) (hp : ws = ps.filterMap (fun i => big[i]?)) (h : ws.all goodWord = true) : GoodIn big ws := by
  intro w hw
  have h1 := List.all_eq_true.mp h w hw
  rw [hp] at hw
  obtain ⟨i, -, hi⟩ := List.mem_filterMap.mp hw
  have hm : w ∈ big := by first | exact List.mem_of_getElem? hi | exact List.getElem?_mem hi
  exact ⟨hm, good_of_word h1⟩
theorem goodIn_app {big a b : List Cond} (ha : GoodIn big a) (hb : GoodIn big b) : GoodIn big (a ++ b) := fun w h => (List.mem_append.mp h).elim (ha w) (hb w)
theorem goodIn_ca {big a b : List Cond} {c : Cond} (ha : GoodIn big (c :: a)) (hb : GoodIn big b) : GoodIn big (c :: (a ++ b)) := fun w h => (List.mem_cons.mp h).elim (fun e => ha w (List.mem_cons.mpr (Or.inl e))) (fun h => (List.mem_append.mp h).elim (fun h => ha w (List.mem_cons.mpr (Or.inr h))) (hb w))
theorem goodIn_sub {big ws : List Cond} (hm : ∀ w ∈ ws, w ∈ big) (h : ws.all goodWord = true) : GoodIn big ws := fun w hw => ⟨hm w hw, good_of_word (List.all_eq_true.mp h w hw)⟩
/-! ===== END ===== -/

/-! ===== BEGIN printed: names, fields, word lists, decode rows ===== -/
def RX0 : String := "EachLendsHisFace$Beggar"
def TX0 : u_T := fun k => match k with
  | _ => ("", "", "", false)
def tyX0 : Nat → FieldType := fun k => match k with
  | _ => .int
abbrev wsX00 : List Cond := u_ws RX0 TX0 0
theorem nmX0 : ∀ a, a < 0 → ∀ b, b < 0 → a ≠ b → (TX0 a).2.1 ≠ (TX0 b).2.1 := by decide +kernel
theorem tyX0_ok : ∀ k, k < 0 → parseFieldDescriptor (TX0 k).2.2.1 = some (tyX0 k) := by decide +kernel
abbrev cX0_init : ByteArray := prog_2_method_1_code
def yX0_init : MethodName := ⟨RX0, "<init>", "()V"⟩
abbrev cX0_fameChange : ByteArray := prog_2_method_2_code
def yX0_fameChange : MethodName := ⟨RX0, "fameChange", "(II)I"⟩
def RX1 : String := "EachLendsHisFace$Dentist"
def TX1 : u_T := fun k => match k with
  | _ => ("", "", "", false)
def tyX1 : Nat → FieldType := fun k => match k with
  | _ => .int
abbrev wsX10 : List Cond := u_ws RX1 TX1 0
theorem nmX1 : ∀ a, a < 0 → ∀ b, b < 0 → a ≠ b → (TX1 a).2.1 ≠ (TX1 b).2.1 := by decide +kernel
theorem tyX1_ok : ∀ k, k < 0 → parseFieldDescriptor (TX1 k).2.2.1 = some (tyX1 k) := by decide +kernel
abbrev cX1_init : ByteArray := prog_3_method_1_code
def yX1_init : MethodName := ⟨RX1, "<init>", "()V"⟩
abbrev cX1_fameChange : ByteArray := prog_3_method_2_code
def yX1_fameChange : MethodName := ⟨RX1, "fameChange", "(II)I"⟩
abbrev cX1_scarsMore : ByteArray := prog_3_method_3_code
def yX1_scarsMore : MethodName := ⟨RX1, "scarsMore", "(I)I"⟩
def RX2 : String := "EachLendsHisFace$Girl"
def TX2 : u_T := fun k => match k with
  | _ => ("", "", "", false)
def tyX2 : Nat → FieldType := fun k => match k with
  | _ => .int
abbrev wsX20 : List Cond := u_ws RX2 TX2 0
theorem nmX2 : ∀ a, a < 0 → ∀ b, b < 0 → a ≠ b → (TX2 a).2.1 ≠ (TX2 b).2.1 := by decide +kernel
theorem tyX2_ok : ∀ k, k < 0 → parseFieldDescriptor (TX2 k).2.2.1 = some (tyX2 k) := by decide +kernel
abbrev cX2_init : ByteArray := prog_4_method_1_code
def yX2_init : MethodName := ⟨RX2, "<init>", "()V"⟩
abbrev cX2_fameChange : ByteArray := prog_4_method_2_code
def yX2_fameChange : MethodName := ⟨RX2, "fameChange", "(II)I"⟩
def RX3 : String := "EachLendsHisFace$Keeper"
def TX3 : u_T := fun k => match k with
  | _ => ("", "", "", false)
def tyX3 : Nat → FieldType := fun k => match k with
  | _ => .int
abbrev wsX30 : List Cond := u_ws RX3 TX3 0
theorem nmX3 : ∀ a, a < 0 → ∀ b, b < 0 → a ≠ b → (TX3 a).2.1 ≠ (TX3 b).2.1 := by decide +kernel
theorem tyX3_ok : ∀ k, k < 0 → parseFieldDescriptor (TX3 k).2.2.1 = some (tyX3 k) := by decide +kernel
abbrev cX3_init : ByteArray := prog_5_method_1_code
def yX3_init : MethodName := ⟨RX3, "<init>", "()V"⟩
abbrev cX3_fameChange : ByteArray := prog_5_method_2_code
def yX3_fameChange : MethodName := ⟨RX3, "fameChange", "(II)I"⟩
def RX4 : String := "EachLendsHisFace$Murderer"
def TX4 : u_T := fun k => match k with
  | _ => ("", "", "", false)
def tyX4 : Nat → FieldType := fun k => match k with
  | _ => .int
abbrev wsX40 : List Cond := u_ws RX4 TX4 0
theorem nmX4 : ∀ a, a < 0 → ∀ b, b < 0 → a ≠ b → (TX4 a).2.1 ≠ (TX4 b).2.1 := by decide +kernel
theorem tyX4_ok : ∀ k, k < 0 → parseFieldDescriptor (TX4 k).2.2.1 = some (tyX4 k) := by decide +kernel
abbrev cX4_init : ByteArray := prog_6_method_1_code
def yX4_init : MethodName := ⟨RX4, "<init>", "()V"⟩
abbrev cX4_fameChange : ByteArray := prog_6_method_2_code
def yX4_fameChange : MethodName := ⟨RX4, "fameChange", "(II)I"⟩
abbrev cX4_scarsMore : ByteArray := prog_6_method_3_code
def yX4_scarsMore : MethodName := ⟨RX4, "scarsMore", "(I)I"⟩
def RX5 : String := "EachLendsHisFace$Person"
def TX5 : u_T := fun k => match k with
  | _ => ("", "", "", false)
def tyX5 : Nat → FieldType := fun k => match k with
  | _ => .int
abbrev wsX50 : List Cond := u_ws RX5 TX5 0
theorem nmX5 : ∀ a, a < 0 → ∀ b, b < 0 → a ≠ b → (TX5 a).2.1 ≠ (TX5 b).2.1 := by decide +kernel
theorem tyX5_ok : ∀ k, k < 0 → parseFieldDescriptor (TX5 k).2.2.1 = some (tyX5 k) := by decide +kernel
abbrev cX5_init : ByteArray := prog_7_method_1_code
def yX5_init : MethodName := ⟨RX5, "<init>", "()V"⟩
abbrev cX5_fameChange : ByteArray := prog_7_method_2_code
def yX5_fameChange : MethodName := ⟨RX5, "fameChange", "(II)I"⟩
abbrev cX5_scarsMore : ByteArray := prog_7_method_3_code
def yX5_scarsMore : MethodName := ⟨RX5, "scarsMore", "(I)I"⟩
def RX6 : String := "EachLendsHisFace$Telling"
def TX6 : u_T := fun k => match k with
  | 0 => ("EachLendsHisFace$Telling", "letters", "[I", true)
  | _ => ("EachLendsHisFace$Telling", "size", "I", false)
def tyX6 : Nat → FieldType := fun k => match k with
  | 0 => .array .int
  | _ => .int
abbrev wsX60 : List Cond := u_ws RX6 TX6 2
theorem nmX6 : ∀ a, a < 2 → ∀ b, b < 2 → a ≠ b → (TX6 a).2.1 ≠ (TX6 b).2.1 := by decide +kernel
theorem tyX6_ok : ∀ k, k < 2 → parseFieldDescriptor (TX6 k).2.2.1 = some (tyX6 k) := by decide +kernel
abbrev cX6_init : ByteArray := prog_8_method_1_code
def yX6_init : MethodName := ⟨RX6, "<init>", "()V"⟩
abbrev cX6_takes : ByteArray := prog_8_method_2_code
def yX6_takes : MethodName := ⟨RX6, "takes", "(I)Z"⟩
abbrev cX6_carryOut : ByteArray := prog_8_method_3_code
def yX6_carryOut : MethodName := ⟨RX6, "carryOut", "(LEachLendsHisFace$Town;)I"⟩
abbrev cX6_brokenPlace : ByteArray := prog_8_method_4_code
def yX6_brokenPlace : MethodName := ⟨RX6, "brokenPlace", "()I"⟩
abbrev cX6_shapeOf : ByteArray := prog_8_method_5_code
def yX6_shapeOf : MethodName := ⟨RX6, "shapeOf", "(I)Ljava/lang/String;"⟩
abbrev cX6_fits : ByteArray := prog_8_method_6_code
def yX6_fits : MethodName := ⟨RX6, "fits", "(IC)Z"⟩
abbrev cX6_kindOf : ByteArray := prog_8_method_7_code
def yX6_kindOf : MethodName := ⟨RX6, "kindOf", "(I)I"⟩
abbrev cX6_comesTo : ByteArray := prog_8_method_8_code
def yX6_comesTo : MethodName := ⟨RX6, "comesTo", "(LEachLendsHisFace$Town;I)Z"⟩
abbrev cX6_signAt : ByteArray := prog_8_method_9_code
def yX6_signAt : MethodName := ⟨RX6, "signAt", "(I)I"⟩
abbrev cX6_digitAt : ByteArray := prog_8_method_10_code
def yX6_digitAt : MethodName := ⟨RX6, "digitAt", "(I)I"⟩
abbrev cX6_twoDigitsAt : ByteArray := prog_8_method_11_code
def yX6_twoDigitsAt : MethodName := ⟨RX6, "twoDigitsAt", "(I)I"⟩
abbrev cX6_lendingComes : ByteArray := prog_8_method_12_code
def yX6_lendingComes : MethodName := ⟨RX6, "lendingComes", "(LEachLendsHisFace$Town;II)Z"⟩
abbrev cX6_backComes : ByteArray := prog_8_method_13_code
def yX6_backComes : MethodName := ⟨RX6, "backComes", "(LEachLendsHisFace$Town;I)Z"⟩
abbrev cX6_knowingComes : ByteArray := prog_8_method_14_code
def yX6_knowingComes : MethodName := ⟨RX6, "knowingComes", "(LEachLendsHisFace$Town;II)Z"⟩
abbrev cX6_fameComes : ByteArray := prog_8_method_15_code
def yX6_fameComes : MethodName := ⟨RX6, "fameComes", "(LEachLendsHisFace$Town;II)Z"⟩
abbrev cX6_monthsCome : ByteArray := prog_8_method_16_code
def yX6_monthsCome : MethodName := ⟨RX6, "monthsCome", "(LEachLendsHisFace$Town;I)Z"⟩
def RX7 : String := "EachLendsHisFace$Town"
def TX7 : u_T := fun k => match k with
  | 0 => ("EachLendsHisFace$Town", "kinds", "[LEachLendsHisFace$Person;", true)
  | 1 => ("EachLendsHisFace$Town", "kind", "[I", true)
  | 2 => ("EachLendsHisFace$Town", "figure", "[I", true)
  | 3 => ("EachLendsHisFace$Town", "known", "[I", true)
  | 4 => ("EachLendsHisFace$Town", "worn", "[I", true)
  | 5 => ("EachLendsHisFace$Town", "fame", "[I", true)
  | 6 => ("EachLendsHisFace$Town", "scars", "[I", true)
  | 7 => ("EachLendsHisFace$Town", "lent", "[I", true)
  | 8 => ("EachLendsHisFace$Town", "people", "I", false)
  | _ => ("EachLendsHisFace$Town", "month", "I", false)
def tyX7 : Nat → FieldType := fun k => match k with
  | 0 => .array (.object "EachLendsHisFace$Person")
  | 1 => .array .int
  | 2 => .array .int
  | 3 => .array .int
  | 4 => .array .int
  | 5 => .array .int
  | 6 => .array .int
  | 7 => .array .int
  | 8 => .int
  | _ => .int
abbrev wsX70 : List Cond := u_ws RX7 TX7 10
theorem nmX7 : ∀ a, a < 10 → ∀ b, b < 10 → a ≠ b → (TX7 a).2.1 ≠ (TX7 b).2.1 := by decide +kernel
theorem tyX7_ok : ∀ k, k < 10 → parseFieldDescriptor (TX7 k).2.2.1 = some (tyX7 k) := by decide +kernel
abbrev cX7_init : ByteArray := prog_9_method_1_code
def yX7_init : MethodName := ⟨RX7, "<init>", "([LEachLendsHisFace$Person;)V"⟩
abbrev cX7_becomeLike : ByteArray := prog_9_method_2_code
def yX7_becomeLike : MethodName := ⟨RX7, "becomeLike", "(LEachLendsHisFace$Town;)V"⟩
abbrev cX7_isThere : ByteArray := prog_9_method_3_code
def yX7_isThere : MethodName := ⟨RX7, "isThere", "(I)Z"⟩
abbrev cX7_takesIn : ByteArray := prog_9_method_4_code
def yX7_takesIn : MethodName := ⟨RX7, "takesIn", "(II)Z"⟩
abbrev cX7_wearsOwn : ByteArray := prog_9_method_5_code
def yX7_wearsOwn : MethodName := ⟨RX7, "wearsOwn", "(I)Z"⟩
abbrev cX7_isLent : ByteArray := prog_9_method_6_code
def yX7_isLent : MethodName := ⟨RX7, "isLent", "(I)Z"⟩
abbrev cX7_canLend : ByteArray := prog_9_method_7_code
def yX7_canLend : MethodName := ⟨RX7, "canLend", "(II)Z"⟩
abbrev cX7_handOver : ByteArray := prog_9_method_8_code
def yX7_handOver : MethodName := ⟨RX7, "handOver", "(II)V"⟩
abbrev cX7_bringBack : ByteArray := prog_9_method_9_code
def yX7_bringBack : MethodName := ⟨RX7, "bringBack", "(I)I"⟩
abbrev cX7_wearerOf : ByteArray := prog_9_method_10_code
def yX7_wearerOf : MethodName := ⟨RX7, "wearerOf", "(I)I"⟩
abbrev cX7_ofFace : ByteArray := prog_9_method_11_code
def yX7_ofFace : MethodName := ⟨RX7, "ofFace", "(II)I"⟩
abbrev cX7_turnKnowing : ByteArray := prog_9_method_12_code
def yX7_turnKnowing : MethodName := ⟨RX7, "turnKnowing", "(II)V"⟩
abbrev cX7_knowsFace : ByteArray := prog_9_method_13_code
def yX7_knowsFace : MethodName := ⟨RX7, "knowsFace", "(II)Z"⟩
abbrev cX7_takenFor : ByteArray := prog_9_method_14_code
def yX7_takenFor : MethodName := ⟨RX7, "takenFor", "(II)I"⟩
abbrev cX7_knowersOf : ByteArray := prog_9_method_15_code
def yX7_knowersOf : MethodName := ⟨RX7, "knowersOf", "(I)I"⟩
abbrev cX7_changeOfFame : ByteArray := prog_9_method_16_code
def yX7_changeOfFame : MethodName := ⟨RX7, "changeOfFame", "(II)I"⟩
abbrev cX7_goOn : ByteArray := prog_9_method_17_code
def yX7_goOn : MethodName := ⟨RX7, "goOn", "(I)V"⟩
abbrev cX7_wearForAMonth : ByteArray := prog_9_method_18_code
def yX7_wearForAMonth : MethodName := ⟨RX7, "wearForAMonth", "(I)V"⟩
abbrev cX7_keepLentForAMonth : ByteArray := prog_9_method_19_code
def yX7_keepLentForAMonth : MethodName := ⟨RX7, "keepLentForAMonth", "(I)V"⟩
abbrev cX7_worthOf : ByteArray := prog_9_method_20_code
def yX7_worthOf : MethodName := ⟨RX7, "worthOf", "(I)I"⟩
abbrev cX7_allFame : ByteArray := prog_9_method_21_code
def yX7_allFame : MethodName := ⟨RX7, "allFame", "()I"⟩
abbrev cX7_allScars : ByteArray := prog_9_method_22_code
def yX7_allScars : MethodName := ⟨RX7, "allScars", "()I"⟩
abbrev cX7_allWorths : ByteArray := prog_9_method_23_code
def yX7_allWorths : MethodName := ⟨RX7, "allWorths", "()I"⟩
abbrev cX7_sumOf : ByteArray := prog_9_method_24_code
def yX7_sumOf : MethodName := ⟨RX7, "sumOf", "([I)I"⟩
abbrev cX7_lookAlike : ByteArray := prog_9_method_25_code
def yX7_lookAlike : MethodName := ⟨RX7, "lookAlike", "(II)Z"⟩
abbrev cX7_faceWithoutFame : ByteArray := prog_9_method_26_code
def yX7_faceWithoutFame : MethodName := ⟨RX7, "faceWithoutFame", "()I"⟩
abbrev cX7_allWearTheirOwn : ByteArray := prog_9_method_27_code
def yX7_allWearTheirOwn : MethodName := ⟨RX7, "allWearTheirOwn", "()Z"⟩
abbrev cX7_lentFaces : ByteArray := prog_9_method_28_code
def yX7_lentFaces : MethodName := ⟨RX7, "lentFaces", "()I"⟩
abbrev cX7_wearersOfOthers : ByteArray := prog_9_method_29_code
def yX7_wearersOfOthers : MethodName := ⟨RX7, "wearersOfOthers", "()I"⟩
abbrev cX7_plainWearers : ByteArray := prog_9_method_30_code
def yX7_plainWearers : MethodName := ⟨RX7, "plainWearers", "()I"⟩
abbrev cX7_facesSeen : ByteArray := prog_9_method_31_code
def yX7_facesSeen : MethodName := ⟨RX7, "facesSeen", "()I"⟩
def RX8 : String := "EachLendsHisFace"
def TX8 : u_T := fun k => match k with
  | 0 => ("EachLendsHisFace", "now", "LEachLendsHisFace$Town;", true)
  | 1 => ("EachLendsHisFace", "mind", "LEachLendsHisFace$Town;", true)
  | 2 => ("EachLendsHisFace", "kept", "LEachLendsHisFace$Town;", true)
  | 3 => ("EachLendsHisFace", "telling", "LEachLendsHisFace$Telling;", true)
  | 4 => ("EachLendsHisFace", "told", "[I", true)
  | 5 => ("EachLendsHisFace", "refusals", "[I", true)
  | 6 => ("EachLendsHisFace", "free", "[I", true)
  | 7 => ("EachLendsHisFace", "firstWorths", "[I", true)
  | 8 => ("EachLendsHisFace", "otherWorths", "[I", true)
  | 9 => ("EachLendsHisFace", "toldSize", "I", false)
  | _ => ("EachLendsHisFace", "hasKept", "Z", false)
def tyX8 : Nat → FieldType := fun k => match k with
  | 0 => .object "EachLendsHisFace$Town"
  | 1 => .object "EachLendsHisFace$Town"
  | 2 => .object "EachLendsHisFace$Town"
  | 3 => .object "EachLendsHisFace$Telling"
  | 4 => .array .int
  | 5 => .array .int
  | 6 => .array .int
  | 7 => .array .int
  | 8 => .array .int
  | 9 => .int
  | _ => .boolean
abbrev wsX80 : List Cond := u_ws RX8 TX8 11
theorem nmX8 : ∀ a, a < 11 → ∀ b, b < 11 → a ≠ b → (TX8 a).2.1 ≠ (TX8 b).2.1 := by decide +kernel
theorem tyX8_ok : ∀ k, k < 11 → parseFieldDescriptor (TX8 k).2.2.1 = some (tyX8 k) := by decide +kernel
abbrev cX8_init : ByteArray := prog_1_method_1_code
def yX8_init : MethodName := ⟨RX8, "<init>", "()V"⟩
abbrev cX8_letter : ByteArray := prog_1_method_2_code
def yX8_letter : MethodName := ⟨RX8, "letter", "(I)I"⟩
abbrev cX8_town : ByteArray := prog_1_method_3_code
def yX8_town : MethodName := ⟨RX8, "town", "()I"⟩
abbrev cX8_person : ByteArray := prog_1_method_4_code
def yX8_person : MethodName := ⟨RX8, "person", "(II)I"⟩
abbrev cX8_face : ByteArray := prog_1_method_5_code
def yX8_face : MethodName := ⟨RX8, "face", "(II)I"⟩
abbrev cX8_worth : ByteArray := prog_1_method_6_code
def yX8_worth : MethodName := ⟨RX8, "worth", "(I)I"⟩
abbrev cX8_lends : ByteArray := prog_1_method_7_code
def yX8_lends : MethodName := ⟨RX8, "lends", "(II)I"⟩
abbrev cX8_back : ByteArray := prog_1_method_8_code
def yX8_back : MethodName := ⟨RX8, "back", "(I)I"⟩
abbrev cX8_learns : ByteArray := prog_1_method_9_code
def yX8_learns : MethodName := ⟨RX8, "learns", "(II)I"⟩
abbrev cX8_becomes : ByteArray := prog_1_method_10_code
def yX8_becomes : MethodName := ⟨RX8, "becomes", "(III)I"⟩
abbrev cX8_turn : ByteArray := prog_1_method_11_code
def yX8_turn : MethodName := ⟨RX8, "turn", "(III)I"⟩
abbrev cX8_months : ByteArray := prog_1_method_12_code
def yX8_months : MethodName := ⟨RX8, "months", "(I)I"⟩
abbrev cX8_faceThen : ByteArray := prog_1_method_13_code
def yX8_faceThen : MethodName := ⟨RX8, "faceThen", "(III)I"⟩
abbrev cX8_wornThen : ByteArray := prog_1_method_14_code
def yX8_wornThen : MethodName := ⟨RX8, "wornThen", "(II)I"⟩
abbrev cX8_first : ByteArray := prog_1_method_15_code
def yX8_first : MethodName := ⟨RX8, "first", "(I)I"⟩
abbrev cX8_monthsTillHome : ByteArray := prog_1_method_16_code
def yX8_monthsTillHome : MethodName := ⟨RX8, "monthsTillHome", "()I"⟩
abbrev cX8_firstWithoutFame : ByteArray := prog_1_method_17_code
def yX8_firstWithoutFame : MethodName := ⟨RX8, "firstWithoutFame", "(I)I"⟩
abbrev cX8_think : ByteArray := prog_1_method_18_code
def yX8_think : MethodName := ⟨RX8, "think", "(I)V"⟩
abbrev cX8_meets : ByteArray := prog_1_method_19_code
def yX8_meets : MethodName := ⟨RX8, "meets", "(II)I"⟩
abbrev cX8_deceived : ByteArray := prog_1_method_20_code
def yX8_deceived : MethodName := ⟨RX8, "deceived", "(II)I"⟩
abbrev cX8_famous : ByteArray := prog_1_method_21_code
def yX8_famous : MethodName := ⟨RX8, "famous", "(I)I"⟩
abbrev cX8_chained : ByteArray := prog_1_method_22_code
def yX8_chained : MethodName := ⟨RX8, "chained", "(I)I"⟩
abbrev cX8_widow : ByteArray := prog_1_method_23_code
def yX8_widow : MethodName := ⟨RX8, "widow", "(II)I"⟩
abbrev cX8_twins : ByteArray := prog_1_method_24_code
def yX8_twins : MethodName := ⟨RX8, "twins", "(I)I"⟩
abbrev cX8_lend : ByteArray := prog_1_method_25_code
def yX8_lend : MethodName := ⟨RX8, "lend", "(III)I"⟩
abbrev cX8_take : ByteArray := prog_1_method_26_code
def yX8_take : MethodName := ⟨RX8, "take", "(II)I"⟩
abbrev cX8_bestPartner : ByteArray := prog_1_method_27_code
def yX8_bestPartner : MethodName := ⟨RX8, "bestPartner", "(IIZI)I"⟩
abbrev cX8_thinkOfLending : ByteArray := prog_1_method_28_code
def yX8_thinkOfLending : MethodName := ⟨RX8, "thinkOfLending", "(III)V"⟩
abbrev cX8_keep : ByteArray := prog_1_method_29_code
def yX8_keep : MethodName := ⟨RX8, "keep", "(I)I"⟩
abbrev cX8_lot : ByteArray := prog_1_method_30_code
def yX8_lot : MethodName := ⟨RX8, "lot", "(I)I"⟩
abbrev cX8_findFree : ByteArray := prog_1_method_31_code
def yX8_findFree : MethodName := ⟨RX8, "findFree", "()I"⟩
abbrev cX8_worthsOfLot : ByteArray := prog_1_method_32_code
def yX8_worthsOfLot : MethodName := ⟨RX8, "worthsOfLot", "(II)I"⟩
abbrev cX8_fewest : ByteArray := prog_1_method_33_code
def yX8_fewest : MethodName := ⟨RX8, "fewest", "(III)I"⟩
abbrev cX8_firstLenderBringing : ByteArray := prog_1_method_34_code
def yX8_firstLenderBringing : MethodName := ⟨RX8, "firstLenderBringing", "(II)I"⟩
abbrev cX8_two : ByteArray := prog_1_method_35_code
def yX8_two : MethodName := ⟨RX8, "two", "(III)I"⟩
abbrev cX8_firstSettledChoice : ByteArray := prog_1_method_36_code
def yX8_firstSettledChoice : MethodName := ⟨RX8, "firstSettledChoice", "()I"⟩
abbrev cX8_quarrel : ByteArray := prog_1_method_37_code
def yX8_quarrel : MethodName := ⟨RX8, "quarrel", "(IIIII)J"⟩
abbrev cX8_waysOfScars : ByteArray := prog_1_method_38_code
def yX8_waysOfScars : MethodName := ⟨RX8, "waysOfScars", "(IIII)J"⟩
abbrev cX8_mean : ByteArray := prog_1_method_39_code
def yX8_mean : MethodName := ⟨RX8, "mean", "(I)J"⟩
abbrev cX8_partOfFraction : ByteArray := prog_1_method_40_code
def yX8_partOfFraction : MethodName := ⟨RX8, "partOfFraction", "(JJI)J"⟩
abbrev cX8_greatestShared : ByteArray := prog_1_method_41_code
def yX8_greatestShared : MethodName := ⟨RX8, "greatestShared", "(JJ)J"⟩
abbrev cX8_power : ByteArray := prog_1_method_42_code
def yX8_power : MethodName := ⟨RX8, "power", "(JI)J"⟩
abbrev cX8_row : ByteArray := prog_1_method_43_code
def yX8_row : MethodName := ⟨RX8, "row", "(I)I"⟩
abbrev cX8_clear : ByteArray := prog_1_method_44_code
def yX8_clear : MethodName := ⟨RX8, "clear", "()I"⟩
abbrev cX8_judge : ByteArray := prog_1_method_45_code
def yX8_judge : MethodName := ⟨RX8, "judge", "()I"⟩
abbrev cX8_who : ByteArray := prog_1_method_46_code
def yX8_who : MethodName := ⟨RX8, "who", "(I)I"⟩
abbrev cX8_wearingFits : ByteArray := prog_1_method_47_code
def yX8_wearingFits : MethodName := ⟨RX8, "wearingFits", "(II)Z"⟩
abbrev cX8_whatIs : ByteArray := prog_1_method_48_code
def yX8_whatIs : MethodName := ⟨RX8, "whatIs", "(II)I"⟩
abbrev cX8_mindFits : ByteArray := prog_1_method_49_code
def yX8_mindFits : MethodName := ⟨RX8, "mindFits", "(I)Z"⟩
abbrev cX8_lots : ByteArray := prog_1_method_50_code
def yX8_lots : MethodName := ⟨RX8, "lots", "(III)I"⟩
abbrev cX8_drawTown : ByteArray := prog_1_method_51_code
def yX8_drawTown : MethodName := ⟨RX8, "drawTown", "(I)I"⟩
abbrev cX8_nextSeed : ByteArray := prog_1_method_52_code
def yX8_nextSeed : MethodName := ⟨RX8, "nextSeed", "(I)I"⟩
abbrev cX8_drawBelow : ByteArray := prog_1_method_53_code
def yX8_drawBelow : MethodName := ⟨RX8, "drawBelow", "(II)I"⟩
abbrev cX8_image : ByteArray := prog_1_method_54_code
def yX8_image : MethodName := ⟨RX8, "image", "()I"⟩
abbrev cX8_on : ByteArray := prog_1_method_55_code
def yX8_on : MethodName := ⟨RX8, "on", "()I"⟩
abbrev cX8_count : ByteArray := prog_1_method_56_code
def yX8_count : MethodName := ⟨RX8, "count", "(I)I"⟩
abbrev cX8_personFault : ByteArray := prog_1_method_57_code
def yX8_personFault : MethodName := ⟨RX8, "personFault", "(I)I"⟩
abbrev cX8_twoFault : ByteArray := prog_1_method_58_code
def yX8_twoFault : MethodName := ⟨RX8, "twoFault", "(II)I"⟩
abbrev cX8_whatFault : ByteArray := prog_1_method_59_code
def yX8_whatFault : MethodName := ⟨RX8, "whatFault", "(II)I"⟩
abbrev cX8_leastFault : ByteArray := prog_1_method_60_code
def yX8_leastFault : MethodName := ⟨RX8, "leastFault", "(II)I"⟩
abbrev cX8_mostFault : ByteArray := prog_1_method_61_code
def yX8_mostFault : MethodName := ⟨RX8, "mostFault", "(II)I"⟩
abbrev cX8_rangeFault : ByteArray := prog_1_method_62_code
def yX8_rangeFault : MethodName := ⟨RX8, "rangeFault", "(III)I"⟩
abbrev cX8_firstOf : ByteArray := prog_1_method_63_code
def yX8_firstOf : MethodName := ⟨RX8, "firstOf", "(II)I"⟩
abbrev cX8_firstOfThree : ByteArray := prog_1_method_64_code
def yX8_firstOfThree : MethodName := ⟨RX8, "firstOfThree", "(III)I"⟩
abbrev cX8_refuse : ByteArray := prog_1_method_65_code
def yX8_refuse : MethodName := ⟨RX8, "refuse", "(I)I"⟩
abbrev cX8_refuseFarOff : ByteArray := prog_1_method_66_code
def yX8_refuseFarOff : MethodName := ⟨RX8, "refuseFarOff", "(I)I"⟩
abbrev cX8_refuseLong : ByteArray := prog_1_method_67_code
def yX8_refuseLong : MethodName := ⟨RX8, "refuseLong", "(I)J"⟩
abbrev cX8_withinMarks : ByteArray := prog_1_method_68_code
def yX8_withinMarks : MethodName := ⟨RX8, "withinMarks", "(I)I"⟩
def RX9 : String := "EachLendsHisFaceModel"
def TX9 : u_T := fun k => match k with
  | 0 => ("EachLendsHisFaceModel", "s", "[I", true)
  | 1 => ("EachLendsHisFaceModel", "m", "[I", true)
  | 2 => ("EachLendsHisFaceModel", "image", "[I", true)
  | 3 => ("EachLendsHisFaceModel", "was", "[I", true)
  | 4 => ("EachLendsHisFaceModel", "lent", "[I", true)
  | 5 => ("EachLendsHisFaceModel", "hasImage", "Z", false)
  | 6 => ("EachLendsHisFaceModel", "letters", "[I", true)
  | 7 => ("EachLendsHisFaceModel", "row", "[I", true)
  | 8 => ("EachLendsHisFaceModel", "refused", "[I", true)
  | 9 => ("EachLendsHisFaceModel", "letterMany", "I", false)
  | 10 => ("EachLendsHisFaceModel", "rowMany", "I", false)
  | 11 => ("EachLendsHisFaceModel", "place", "I", false)
  | 12 => ("EachLendsHisFaceModel", "numbers", "[I", true)
  | _ => ("EachLendsHisFaceModel", "seed", "I", false)
def tyX9 : Nat → FieldType := fun k => match k with
  | 0 => .array .int
  | 1 => .array .int
  | 2 => .array .int
  | 3 => .array .int
  | 4 => .array .int
  | 5 => .boolean
  | 6 => .array .int
  | 7 => .array .int
  | 8 => .array .int
  | 9 => .int
  | 10 => .int
  | 11 => .int
  | 12 => .array .int
  | _ => .int
abbrev wsX90 : List Cond := u_ws RX9 TX9 14
theorem nmX9 : ∀ a, a < 14 → ∀ b, b < 14 → a ≠ b → (TX9 a).2.1 ≠ (TX9 b).2.1 := by decide +kernel
theorem tyX9_ok : ∀ k, k < 14 → parseFieldDescriptor (TX9 k).2.2.1 = some (tyX9 k) := by decide +kernel
abbrev cX9_init : ByteArray := prog_11_method_1_code
def yX9_init : MethodName := ⟨RX9, "<init>", "()V"⟩
abbrev cX9_isIn : ByteArray := prog_11_method_2_code
def yX9_isIn : MethodName := ⟨RX9, "isIn", "(III)Z"⟩
abbrev cX9_held : ByteArray := prog_11_method_3_code
def yX9_held : MethodName := ⟨RX9, "held", "(I)I"⟩
abbrev cX9_copies : ByteArray := prog_11_method_4_code
def yX9_copies : MethodName := ⟨RX9, "copies", "([I[I)V"⟩
abbrev cX9_no : ByteArray := prog_11_method_5_code
def yX9_no : MethodName := ⟨RX9, "no", "(I)I"⟩
abbrev cX9_noFar : ByteArray := prog_11_method_6_code
def yX9_noFar : MethodName := ⟨RX9, "noFar", "(I)I"⟩
abbrev cX9_noWide : ByteArray := prog_11_method_7_code
def yX9_noWide : MethodName := ⟨RX9, "noWide", "(I)J"⟩
abbrev cX9_of : ByteArray := prog_11_method_8_code
def yX9_of : MethodName := ⟨RX9, "of", "(II)I"⟩
abbrev cX9_isOne : ByteArray := prog_11_method_9_code
def yX9_isOne : MethodName := ⟨RX9, "isOne", "(I)Z"⟩
abbrev cX9_areTwo : ByteArray := prog_11_method_10_code
def yX9_areTwo : MethodName := ⟨RX9, "areTwo", "(II)Z"⟩
abbrev cX9_has : ByteArray := prog_11_method_11_code
def yX9_has : MethodName := ⟨RX9, "has", "(II)Z"⟩
abbrev cX9_knowing : ByteArray := prog_11_method_13_code
def yX9_knowing : MethodName := ⟨RX9, "knowing", "([III)I"⟩
abbrev cX9_fameBy : ByteArray := prog_11_method_14_code
def yX9_fameBy : MethodName := ⟨RX9, "fameBy", "([III)I"⟩
abbrev cX9_scarsBy : ByteArray := prog_11_method_15_code
def yX9_scarsBy : MethodName := ⟨RX9, "scarsBy", "([II)I"⟩
abbrev cX9_wearsOwn : ByteArray := prog_11_method_16_code
def yX9_wearsOwn : MethodName := ⟨RX9, "wearsOwn", "([II)Z"⟩
abbrev cX9_canLend : ByteArray := prog_11_method_17_code
def yX9_canLend : MethodName := ⟨RX9, "canLend", "([III)Z"⟩
abbrev cX9_lendsIn : ByteArray := prog_11_method_18_code
def yX9_lendsIn : MethodName := ⟨RX9, "lendsIn", "([III)V"⟩
abbrev cX9_wearerOf : ByteArray := prog_11_method_19_code
def yX9_wearerOf : MethodName := ⟨RX9, "wearerOf", "([II)I"⟩
abbrev cX9_comesBack : ByteArray := prog_11_method_20_code
def yX9_comesBack : MethodName := ⟨RX9, "comesBack", "([II)I"⟩
abbrev cX9_month : ByteArray := prog_11_method_21_code
def yX9_month : MethodName := ⟨RX9, "month", "([I)V"⟩
abbrev cX9_monthsOn : ByteArray := prog_11_method_22_code
def yX9_monthsOn : MethodName := ⟨RX9, "monthsOn", "([II)V"⟩
abbrev cX9_worthIn : ByteArray := prog_11_method_23_code
def yX9_worthIn : MethodName := ⟨RX9, "worthIn", "([II)I"⟩
abbrev cX9_worthAll : ByteArray := prog_11_method_24_code
def yX9_worthAll : MethodName := ⟨RX9, "worthAll", "([I)I"⟩
abbrev cX9_lentIn : ByteArray := prog_11_method_25_code
def yX9_lentIn : MethodName := ⟨RX9, "lentIn", "([I)I"⟩
abbrev cX9_letter : ByteArray := prog_11_method_26_code
def yX9_letter : MethodName := ⟨RX9, "letter", "(I)I"⟩
abbrev cX9_here : ByteArray := prog_11_method_27_code
def yX9_here : MethodName := ⟨RX9, "here", "()I"⟩
abbrev cX9_readsNumber : ByteArray := prog_11_method_28_code
def yX9_readsNumber : MethodName := ⟨RX9, "readsNumber", "(II)Z"⟩
abbrev cX9_kindBy : ByteArray := prog_11_method_29_code
def yX9_kindBy : MethodName := ⟨RX9, "kindBy", "(I)I"⟩
abbrev cX9_readsKind : ByteArray := prog_11_method_30_code
def yX9_readsKind : MethodName := ⟨RX9, "readsKind", "()Z"⟩
abbrev cX9_readsStatement : ByteArray := prog_11_method_31_code
def yX9_readsStatement : MethodName := ⟨RX9, "readsStatement", "()Z"⟩
abbrev cX9_adds : ByteArray := prog_11_method_32_code
def yX9_adds : MethodName := ⟨RX9, "adds", "(II)Z"⟩
abbrev cX9_isDone : ByteArray := prog_11_method_33_code
def yX9_isDone : MethodName := ⟨RX9, "isDone", "(I)Z"⟩
abbrev cX9_town : ByteArray := prog_11_method_34_code
def yX9_town : MethodName := ⟨RX9, "town", "()I"⟩
abbrev cX9_person : ByteArray := prog_11_method_35_code
def yX9_person : MethodName := ⟨RX9, "person", "(II)I"⟩
abbrev cX9_faceIn : ByteArray := prog_11_method_36_code
def yX9_faceIn : MethodName := ⟨RX9, "faceIn", "([III)I"⟩
abbrev cX9_face : ByteArray := prog_11_method_37_code
def yX9_face : MethodName := ⟨RX9, "face", "(II)I"⟩
abbrev cX9_worth : ByteArray := prog_11_method_38_code
def yX9_worth : MethodName := ⟨RX9, "worth", "(I)I"⟩
abbrev cX9_lends : ByteArray := prog_11_method_39_code
def yX9_lends : MethodName := ⟨RX9, "lends", "(II)I"⟩
abbrev cX9_back : ByteArray := prog_11_method_40_code
def yX9_back : MethodName := ⟨RX9, "back", "(I)I"⟩
abbrev cX9_learns : ByteArray := prog_11_method_41_code
def yX9_learns : MethodName := ⟨RX9, "learns", "(II)I"⟩
abbrev cX9_wrongBy : ByteArray := prog_11_method_42_code
def yX9_wrongBy : MethodName := ⟨RX9, "wrongBy", "(II)I"⟩
abbrev cX9_becomes : ByteArray := prog_11_method_43_code
def yX9_becomes : MethodName := ⟨RX9, "becomes", "(III)I"⟩
abbrev cX9_turn : ByteArray := prog_11_method_44_code
def yX9_turn : MethodName := ⟨RX9, "turn", "(III)I"⟩
abbrev cX9_months : ByteArray := prog_11_method_45_code
def yX9_months : MethodName := ⟨RX9, "months", "(I)I"⟩
abbrev cX9_faceThen : ByteArray := prog_11_method_46_code
def yX9_faceThen : MethodName := ⟨RX9, "faceThen", "(III)I"⟩
abbrev cX9_wornThen : ByteArray := prog_11_method_47_code
def yX9_wornThen : MethodName := ⟨RX9, "wornThen", "(II)I"⟩
abbrev cX9_areHome : ByteArray := prog_11_method_48_code
def yX9_areHome : MethodName := ⟨RX9, "areHome", "([I)Z"⟩
abbrev cX9_first : ByteArray := prog_11_method_49_code
def yX9_first : MethodName := ⟨RX9, "first", "(I)I"⟩
abbrev cX9_meetsOne : ByteArray := prog_11_method_50_code
def yX9_meetsOne : MethodName := ⟨RX9, "meetsOne", "(II)I"⟩
abbrev cX9_meets : ByteArray := prog_11_method_51_code
def yX9_meets : MethodName := ⟨RX9, "meets", "(II)I"⟩
abbrev cX9_deceived : ByteArray := prog_11_method_52_code
def yX9_deceived : MethodName := ⟨RX9, "deceived", "(II)I"⟩
abbrev cX9_famous : ByteArray := prog_11_method_53_code
def yX9_famous : MethodName := ⟨RX9, "famous", "(I)I"⟩
abbrev cX9_worthBehind : ByteArray := prog_11_method_54_code
def yX9_worthBehind : MethodName := ⟨RX9, "worthBehind", "(II)I"⟩
abbrev cX9_worthNow : ByteArray := prog_11_method_55_code
def yX9_worthNow : MethodName := ⟨RX9, "worthNow", "(II)I"⟩
abbrev cX9_wrongLend : ByteArray := prog_11_method_56_code
def yX9_wrongLend : MethodName := ⟨RX9, "wrongLend", "(II)I"⟩
abbrev cX9_lend : ByteArray := prog_11_method_57_code
def yX9_lend : MethodName := ⟨RX9, "lend", "(III)I"⟩
abbrev cX9_take : ByteArray := prog_11_method_58_code
def yX9_take : MethodName := ⟨RX9, "take", "(II)I"⟩
abbrev cX9_keep : ByteArray := prog_11_method_59_code
def yX9_keep : MethodName := ⟨RX9, "keep", "(I)I"⟩
abbrev cX9_plainSet : ByteArray := prog_11_method_60_code
def yX9_plainSet : MethodName := ⟨RX9, "plainSet", "([I)I"⟩
abbrev cX9_chained : ByteArray := prog_11_method_61_code
def yX9_chained : MethodName := ⟨RX9, "chained", "(I)I"⟩
abbrev cX9_pairsBy : ByteArray := prog_11_method_62_code
def yX9_pairsBy : MethodName := ⟨RX9, "pairsBy", "(I)I"⟩
abbrev cX9_lot : ByteArray := prog_11_method_63_code
def yX9_lot : MethodName := ⟨RX9, "lot", "(I)I"⟩
abbrev cX9_isFamedBehind : ByteArray := prog_11_method_64_code
def yX9_isFamedBehind : MethodName := ⟨RX9, "isFamedBehind", "([III)Z"⟩
abbrev cX9_canBeBy : ByteArray := prog_11_method_65_code
def yX9_canBeBy : MethodName := ⟨RX9, "canBeBy", "(II)Z"⟩
abbrev cX9_firstLender : ByteArray := prog_11_method_66_code
def yX9_firstLender : MethodName := ⟨RX9, "firstLender", "(III)I"⟩
abbrev cX9_fewest : ByteArray := prog_11_method_67_code
def yX9_fewest : MethodName := ⟨RX9, "fewest", "(III)I"⟩
abbrev cX9_who : ByteArray := prog_11_method_68_code
def yX9_who : MethodName := ⟨RX9, "who", "(I)I"⟩
abbrev cX9_widow : ByteArray := prog_11_method_69_code
def yX9_widow : MethodName := ⟨RX9, "widow", "(II)I"⟩
abbrev cX9_twins : ByteArray := prog_11_method_70_code
def yX9_twins : MethodName := ⟨RX9, "twins", "(I)I"⟩
abbrev cX9_worthBoth : ByteArray := prog_11_method_71_code
def yX9_worthBoth : MethodName := ⟨RX9, "worthBoth", "(IIIIII)I"⟩
abbrev cX9_two : ByteArray := prog_11_method_72_code
def yX9_two : MethodName := ⟨RX9, "two", "(III)I"⟩
abbrev cX9_gcd : ByteArray := prog_11_method_73_code
def yX9_gcd : MethodName := ⟨RX9, "gcd", "(JJ)J"⟩
abbrev cX9_partOf : ByteArray := prog_11_method_74_code
def yX9_partOf : MethodName := ⟨RX9, "partOf", "(JJI)J"⟩
abbrev cX9_quarrel : ByteArray := prog_11_method_75_code
def yX9_quarrel : MethodName := ⟨RX9, "quarrel", "(IIIII)J"⟩
abbrev cX9_allOf : ByteArray := prog_11_method_76_code
def yX9_allOf : MethodName := ⟨RX9, "allOf", "([II)I"⟩
abbrev cX9_mean : ByteArray := prog_11_method_77_code
def yX9_mean : MethodName := ⟨RX9, "mean", "(I)J"⟩
abbrev cX9_whatIs : ByteArray := prog_11_method_78_code
def yX9_whatIs : MethodName := ⟨RX9, "whatIs", "(II)I"⟩
abbrev cX9_row : ByteArray := prog_11_method_79_code
def yX9_row : MethodName := ⟨RX9, "row", "(I)I"⟩
abbrev cX9_judge : ByteArray := prog_11_method_80_code
def yX9_judge : MethodName := ⟨RX9, "judge", "()I"⟩
abbrev cX9_clear : ByteArray := prog_11_method_81_code
def yX9_clear : MethodName := ⟨RX9, "clear", "()I"⟩
abbrev cX9_drawn : ByteArray := prog_11_method_82_code
def yX9_drawn : MethodName := ⟨RX9, "drawn", "(I)I"⟩
abbrev cX9_lots : ByteArray := prog_11_method_83_code
def yX9_lots : MethodName := ⟨RX9, "lots", "(III)I"⟩
abbrev cX9_image : ByteArray := prog_11_method_84_code
def yX9_image : MethodName := ⟨RX9, "image", "()I"⟩
abbrev cX9_on : ByteArray := prog_11_method_85_code
def yX9_on : MethodName := ⟨RX9, "on", "()I"⟩
abbrev cX9_count : ByteArray := prog_11_method_86_code
def yX9_count : MethodName := ⟨RX9, "count", "(I)I"⟩
def RJ11 : String := "java/lang/Character"
def TJ11 : u_T := fun k => match k with
  | _ => ("", "", "", false)
def tyJ11 : Nat → FieldType := fun k => match k with
  | _ => .int
abbrev wsJ110 : List Cond := u_ws RJ11 TJ11 0
theorem nmJ11 : ∀ a, a < 0 → ∀ b, b < 0 → a ≠ b → (TJ11 a).2.1 ≠ (TJ11 b).2.1 := by decide +kernel
theorem tyJ11_ok : ∀ k, k < 0 → parseFieldDescriptor (TJ11 k).2.2.1 = some (tyJ11 k) := by decide +kernel
abbrev cJ11_isValidCodePoint_9a6ad : ByteArray := prog_12_method_11_code
def yJ11_isValidCodePoint_9a6ad : MethodName := ⟨RJ11, "isValidCodePoint", "(I)Z"⟩
abbrev cJ11_highSurrogate_5068e : ByteArray := prog_12_method_28_code
def yJ11_highSurrogate_5068e : MethodName := ⟨RJ11, "highSurrogate", "(I)C"⟩
abbrev cJ11_lowSurrogate_5068e : ByteArray := prog_12_method_29_code
def yJ11_lowSurrogate_5068e : MethodName := ⟨RJ11, "lowSurrogate", "(I)C"⟩
def RJ9 : String := "java/lang/Math"
def TJ9 : u_T := fun k => match k with
  | _ => ("", "", "", false)
def tyJ9 : Nat → FieldType := fun k => match k with
  | _ => .int
abbrev wsJ90 : List Cond := u_ws RJ9 TJ9 0
theorem nmJ9 : ∀ a, a < 0 → ∀ b, b < 0 → a ≠ b → (TJ9 a).2.1 ≠ (TJ9 b).2.1 := by decide +kernel
theorem tyJ9_ok : ∀ k, k < 0 → parseFieldDescriptor (TJ9 k).2.2.1 = some (tyJ9 k) := by decide +kernel
abbrev cJ9_max_7cf53 : ByteArray := prog_13_method_65_code
def yJ9_max_7cf53 : MethodName := ⟨RJ9, "max", "(II)I"⟩
abbrev cJ9_min_7cf53 : ByteArray := prog_13_method_69_code
def yJ9_min_7cf53 : MethodName := ⟨RJ9, "min", "(II)I"⟩
def RJ0 : String := "java/lang/String"
def TJ0 : u_T := fun k => match k with
  | _ => ("", "", "", false)
def tyJ0 : Nat → FieldType := fun k => match k with
  | _ => .int
abbrev wsJ00 : List Cond := u_ws RJ0 TJ0 0
theorem nmJ0 : ∀ a, a < 0 → ∀ b, b < 0 → a ≠ b → (TJ0 a).2.1 ≠ (TJ0 b).2.1 := by decide +kernel
theorem tyJ0_ok : ∀ k, k < 0 → parseFieldDescriptor (TJ0 k).2.2.1 = some (tyJ0 k) := by decide +kernel
abbrev cJ0_length_8abf5 : ByteArray := prog_14_method_54_code
def yJ0_length_8abf5 : MethodName := ⟨RJ0, "length", "()I"⟩
abbrev cJ0_isEmpty_aae02 : ByteArray := prog_14_method_55_code
def yJ0_isEmpty_aae02 : MethodName := ⟨RJ0, "isEmpty", "()Z"⟩
abbrev cJ0_charAt_5068e : ByteArray := prog_14_method_56_code
def yJ0_charAt_5068e : MethodName := ⟨RJ0, "charAt", "(I)C"⟩
abbrev cJ0_indexOf_0f7a4 : ByteArray := prog_14_method_79_code
def yJ0_indexOf_0f7a4 : MethodName := ⟨RJ0, "indexOf", "(I)I"⟩
abbrev cJ0_indexOf_7cf53 : ByteArray := prog_14_method_80_code
def yJ0_indexOf_7cf53 : MethodName := ⟨RJ0, "indexOf", "(II)I"⟩
abbrev cJ0_coder_7d493 : ByteArray := prog_14_method_152_code
def yJ0_coder_7d493 : MethodName := ⟨RJ0, "coder", "()B"⟩
abbrev cJ0_isLatin1_aae02 : ByteArray := prog_14_method_154_code
def yJ0_isLatin1_aae02 : MethodName := ⟨RJ0, "isLatin1", "()Z"⟩
abbrev cJ0_checkIndex_df160 : ByteArray := prog_14_method_155_code
def yJ0_checkIndex_df160 : MethodName := ⟨RJ0, "checkIndex", "(II)V"⟩
abbrev cJ0_checkBoundsBeginEnd_23922 : ByteArray := prog_14_method_158_code
def yJ0_checkBoundsBeginEnd_23922 : MethodName := ⟨RJ0, "checkBoundsBeginEnd", "(III)V"⟩
def RJ1 : String := "java/lang/StringLatin1"
def TJ1 : u_T := fun k => match k with
  | _ => ("", "", "", false)
def tyJ1 : Nat → FieldType := fun k => match k with
  | _ => .int
abbrev wsJ10 : List Cond := u_ws RJ1 TJ1 0
theorem nmJ1 : ∀ a, a < 0 → ∀ b, b < 0 → a ≠ b → (TJ1 a).2.1 ≠ (TJ1 b).2.1 := by decide +kernel
theorem tyJ1_ok : ∀ k, k < 0 → parseFieldDescriptor (TJ1 k).2.2.1 = some (tyJ1 k) := by decide +kernel
abbrev cJ1_charAt_3b067 : ByteArray := prog_15_method_2_code
def yJ1_charAt_3b067 : MethodName := ⟨RJ1, "charAt", "([BI)C"⟩
abbrev cJ1_canEncode_9a6ad : ByteArray := prog_15_method_4_code
def yJ1_canEncode_9a6ad : MethodName := ⟨RJ1, "canEncode", "(I)Z"⟩
abbrev cJ1_indexOf_4cfef : ByteArray := prog_15_method_22_code
def yJ1_indexOf_4cfef : MethodName := ⟨RJ1, "indexOf", "([BIII)I"⟩
abbrev cJ1_indexOfChar_4cfef : ByteArray := prog_15_method_23_code
def yJ1_indexOfChar_4cfef : MethodName := ⟨RJ1, "indexOfChar", "([BIII)I"⟩
def RJ2 : String := "java/lang/StringUTF16"
def TJ2 : u_T := fun k => match k with
  | _ => ("", "", "", false)
def tyJ2 : Nat → FieldType := fun k => match k with
  | _ => .int
abbrev wsJ20 : List Cond := u_ws RJ2 TJ2 0
theorem nmJ2 : ∀ a, a < 0 → ∀ b, b < 0 → a ≠ b → (TJ2 a).2.1 ≠ (TJ2 b).2.1 := by decide +kernel
theorem tyJ2_ok : ∀ k, k < 0 → parseFieldDescriptor (TJ2 k).2.2.1 = some (tyJ2 k) := by decide +kernel
abbrev cJ2_getChar_3b067 : ByteArray := prog_16_method_5_code
def yJ2_getChar_3b067 : MethodName := ⟨RJ2, "getChar", "([BI)C"⟩
abbrev cJ2_length_9d52b : ByteArray := prog_16_method_6_code
def yJ2_length_9d52b : MethodName := ⟨RJ2, "length", "([B)I"⟩
abbrev cJ2_indexOf_4cfef : ByteArray := prog_16_method_40_code
def yJ2_indexOf_4cfef : MethodName := ⟨RJ2, "indexOf", "([BIII)I"⟩
abbrev cJ2_indexOfChar_4cfef : ByteArray := prog_16_method_47_code
def yJ2_indexOfChar_4cfef : MethodName := ⟨RJ2, "indexOfChar", "([BIII)I"⟩
abbrev cJ2_indexOfCharUnsafe_4cfef : ByteArray := prog_16_method_48_code
def yJ2_indexOfCharUnsafe_4cfef : MethodName := ⟨RJ2, "indexOfCharUnsafe", "([BIII)I"⟩
abbrev cJ2_indexOfSupplementary_4cfef : ByteArray := prog_16_method_49_code
def yJ2_indexOfSupplementary_4cfef : MethodName := ⟨RJ2, "indexOfSupplementary", "([BIII)I"⟩
abbrev cJ2_charAt_3b067 : ByteArray := prog_16_method_83_code
def yJ2_charAt_3b067 : MethodName := ⟨RJ2, "charAt", "([BI)C"⟩
abbrev cJ2_checkIndex_2214a : ByteArray := prog_16_method_91_code
def yJ2_checkIndex_2214a : MethodName := ⟨RJ2, "checkIndex", "(I[B)V"⟩
abbrev cJ2_checkBoundsBeginEnd_d044e : ByteArray := prog_16_method_93_code
def yJ2_checkBoundsBeginEnd_d044e : MethodName := ⟨RJ2, "checkBoundsBeginEnd", "(II[B)V"⟩
def RJ3 : String := "jdk/internal/util/Preconditions"
def TJ3 : u_T := fun k => match k with
  | _ => ("", "", "", false)
def tyJ3 : Nat → FieldType := fun k => match k with
  | _ => .int
abbrev wsJ30 : List Cond := u_ws RJ3 TJ3 0
theorem nmJ3 : ∀ a, a < 0 → ∀ b, b < 0 → a ≠ b → (TJ3 a).2.1 ≠ (TJ3 b).2.1 := by decide +kernel
theorem tyJ3_ok : ∀ k, k < 0 → parseFieldDescriptor (TJ3 k).2.2.1 = some (tyJ3 k) := by decide +kernel
abbrev cJ3_checkIndex_8e157 : ByteArray := prog_17_method_11_code
def yJ3_checkIndex_8e157 : MethodName := ⟨RJ3, "checkIndex", "(IILjava/util/function/BiFunction;)I"⟩
abbrev cJ3_checkFromToIndex_8c36e : ByteArray := prog_17_method_12_code
def yJ3_checkFromToIndex_8c36e : MethodName := ⟨RJ3, "checkFromToIndex", "(IIILjava/util/function/BiFunction;)I"⟩
def RL : String := "EachLendsHisFaceLaw"
abbrev cL_law : ByteArray := code
def yL_law : MethodName := ⟨RL, "law", "([I)Z"⟩
def wsL_law_r1 : List Cond := [Cond.classLink RL 7 RX8, Cond.instantiable RX8 11, Cond.initialized RX8, Cond.classLink RL 10 RX9, Cond.instantiable RX9 14, Cond.initialized RX9, Cond.methodLink RL 9 yX8_init, Cond.instanceMethod yX8_init, Cond.code yX8_init cX8_init 2 none, Cond.methodLink RX8 1 objectInit, Cond.instanceMethod objectInit, Cond.code objectInit ⟨#[0xb1]⟩ 1 none, Cond.classLink RX8 7 RX5, Cond.instantiable RX5 0, Cond.initialized RX5, Cond.classLink RX8 10 RX0, Cond.instantiable RX0 0, Cond.initialized RX0, Cond.classLink RX8 13 RX4, Cond.instantiable RX4 0, Cond.initialized RX4, Cond.classLink RX8 16 RX3, Cond.instantiable RX3 0, Cond.initialized RX3]
def wsL_law_r2 : List Cond := [Cond.classLink RX8 19 RX1, Cond.instantiable RX1 0, Cond.initialized RX1, Cond.classLink RX8 22 RX2, Cond.instantiable RX2 0, Cond.initialized RX2, Cond.classLink RX8 25 RX7, Cond.instantiable RX7 10, Cond.initialized RX7, Cond.fieldLink RX8 30 "EachLendsHisFace" "now" "LEachLendsHisFace$Town;", Cond.fieldLink RX8 36 "EachLendsHisFace" "mind" "LEachLendsHisFace$Town;", Cond.fieldLink RX8 39 "EachLendsHisFace" "kept" "LEachLendsHisFace$Town;", Cond.classLink RX8 42 RX6, Cond.instantiable RX6 2, Cond.initialized RX6, Cond.fieldLink RX8 45 "EachLendsHisFace" "telling" "LEachLendsHisFace$Telling;", Cond.arrayClass .int, Cond.fieldLink RX8 49 "EachLendsHisFace" "told" "[I", Cond.fieldLink RX8 53 "EachLendsHisFace" "refusals" "[I", Cond.fieldLink RX8 56 "EachLendsHisFace" "free" "[I", Cond.fieldLink RX8 59 "EachLendsHisFace" "firstWorths" "[I", Cond.fieldLink RX8 62 "EachLendsHisFace" "otherWorths" "[I", Cond.fieldLink RX8 65 "EachLendsHisFace" "toldSize" "I", Cond.fieldLink RX8 69 "EachLendsHisFace" "hasKept" "Z"]
def wsL_law_r3 : List Cond := [Cond.instanceMethod yX5_init, Cond.code yX5_init cX5_init 1 none, Cond.methodLink RX5 1 objectInit, Cond.instanceMethod yX0_init, Cond.code yX0_init cX0_init 1 none, Cond.instanceMethod yX4_init, Cond.code yX4_init cX4_init 1 none, Cond.instanceMethod yX3_init, Cond.code yX3_init cX3_init 1 none, Cond.instanceMethod yX1_init, Cond.code yX1_init cX1_init 1 none, Cond.instanceMethod yX2_init, Cond.code yX2_init cX2_init 1 none, Cond.methodLink RX8 27 yX7_init, Cond.instanceMethod yX7_init, Cond.code yX7_init cX7_init 2 none, Cond.methodLink RX7 3 objectInit, Cond.fieldLink RX7 9 "EachLendsHisFace$Town" "kinds" "[LEachLendsHisFace$Person;", Cond.fieldLink RX7 15 "EachLendsHisFace$Town" "kind" "[I", Cond.fieldLink RX7 19 "EachLendsHisFace$Town" "figure" "[I", Cond.fieldLink RX7 22 "EachLendsHisFace$Town" "known" "[I", Cond.fieldLink RX7 25 "EachLendsHisFace$Town" "worn" "[I", Cond.fieldLink RX7 28 "EachLendsHisFace$Town" "fame" "[I", Cond.fieldLink RX7 31 "EachLendsHisFace$Town" "scars" "[I"]
def wsL_law_r4 : List Cond := [Cond.fieldLink RX7 34 "EachLendsHisFace$Town" "lent" "[I", Cond.fieldLink RX7 37 "EachLendsHisFace$Town" "people" "I", Cond.fieldLink RX7 41 "EachLendsHisFace$Town" "month" "I", Cond.methodLink RX8 44 yX6_init, Cond.instanceMethod yX6_init, Cond.code yX6_init cX6_init 1 none, Cond.methodLink RX6 3 objectInit, Cond.fieldLink RX6 9 "EachLendsHisFace$Telling" "letters" "[I", Cond.fieldLink RX6 15 "EachLendsHisFace$Telling" "size" "I", Cond.methodLink RL 12 yX9_init, Cond.instanceMethod yX9_init, Cond.code yX9_init cX9_init 1 none, Cond.methodLink RX9 1 objectInit, Cond.fieldLink RX9 9 "EachLendsHisFaceModel" "s" "[I", Cond.fieldLink RX9 13 "EachLendsHisFaceModel" "m" "[I", Cond.fieldLink RX9 16 "EachLendsHisFaceModel" "image" "[I", Cond.fieldLink RX9 19 "EachLendsHisFaceModel" "was" "[I", Cond.fieldLink RX9 22 "EachLendsHisFaceModel" "lent" "[I", Cond.fieldLink RX9 25 "EachLendsHisFaceModel" "letters" "[I", Cond.fieldLink RX9 28 "EachLendsHisFaceModel" "row" "[I", Cond.fieldLink RX9 31 "EachLendsHisFaceModel" "refused" "[I", Cond.fieldLink RX9 34 "EachLendsHisFaceModel" "numbers" "[I", Cond.methodLink RL 13 yX8_letter, Cond.instanceMethod yX8_letter]
def wsL_law_r5 : List Cond := [Cond.selects RX8 yX8_letter yX8_letter, Cond.code yX8_letter cX8_letter 3 (some .int), Cond.methodLink RX8 73 yX8_rangeFault, Cond.static yX8_rangeFault, Cond.code yX8_rangeFault cX8_rangeFault 3 (some .int), Cond.methodLink RX8 233 yX8_leastFault, Cond.static yX8_leastFault, Cond.code yX8_leastFault cX8_leastFault 2 (some .int), Cond.methodLink RX8 236 yX8_mostFault, Cond.static yX8_mostFault, Cond.code yX8_mostFault cX8_mostFault 2 (some .int), Cond.methodLink RX8 103 yX8_firstOf, Cond.static yX8_firstOf, Cond.code yX8_firstOf cX8_firstOf 2 (some .int), Cond.methodLink RX8 77 yX8_refuse, Cond.instanceMethod yX8_refuse, Cond.selects RX8 yX8_refuse yX8_refuse, Cond.code yX8_refuse cX8_refuse 2 (some .int), Cond.methodLink RX8 81 yX6_takes, Cond.instanceMethod yX6_takes, Cond.selects RX6 yX6_takes yX6_takes, Cond.code yX6_takes cX6_takes 2 (some .boolean), Cond.methodLink RL 17 yX9_letter, Cond.instanceMethod yX9_letter]
def wsL_law_r6 : List Cond := [Cond.selects RX9 yX9_letter yX9_letter, Cond.code yX9_letter cX9_letter 2 (some .int), Cond.fieldLink RX9 91 "EachLendsHisFaceModel" "letterMany" "I", Cond.methodLink RX9 38 yX9_no, Cond.instanceMethod yX9_no, Cond.selects RX9 yX9_no yX9_no, Cond.code yX9_no cX9_no 2 (some .int), Cond.methodLink RL 18 yX8_town, Cond.instanceMethod yX8_town, Cond.selects RX8 yX8_town yX8_town, Cond.code yX8_town cX8_town 2 (some .int), Cond.methodLink RX8 88 yX7_becomeLike, Cond.instanceMethod yX7_becomeLike, Cond.selects RX7 yX7_becomeLike yX7_becomeLike, Cond.code yX7_becomeLike cX7_becomeLike 3 none, Cond.methodLink RX8 92 yX6_carryOut, Cond.instanceMethod yX6_carryOut, Cond.selects RX6 yX6_carryOut yX6_carryOut, Cond.code yX6_carryOut cX6_carryOut 5 (some .int), Cond.methodLink RX6 19 yX6_brokenPlace, Cond.instanceMethod yX6_brokenPlace, Cond.selects RX6 yX6_brokenPlace yX6_brokenPlace, Cond.code yX6_brokenPlace cX6_brokenPlace 4 (some .int), Cond.methodLink RX6 31 yJ0_length_8abf5]
def wsL_law_r7 : List Cond := [Cond.instanceMethod yJ0_length_8abf5, Cond.selects RJ0 yJ0_length_8abf5 yJ0_length_8abf5, Cond.initialized RJ0, Cond.code yJ0_length_8abf5 cJ0_length_8abf5 1 (some .int), Cond.fieldLink RJ0 9 "java/lang/String" "value" "[B", Cond.methodLink RJ0 335 yJ0_coder_7d493, Cond.instanceMethod yJ0_coder_7d493, Cond.selects RJ0 yJ0_coder_7d493 yJ0_coder_7d493, Cond.code yJ0_coder_7d493 cJ0_coder_7d493 1 (some .byte), Cond.fieldLink RJ0 38 "java/lang/String" "COMPACT_STRINGS" "Z", Cond.fieldLink RJ0 15 "java/lang/String" "coder" "B", Cond.methodLink RX6 38 yJ0_charAt_5068e, Cond.instanceMethod yJ0_charAt_5068e, Cond.selects RJ0 yJ0_charAt_5068e yJ0_charAt_5068e, Cond.code yJ0_charAt_5068e cJ0_charAt_5068e 2 (some .char), Cond.methodLink RJ0 492 yJ0_isLatin1_aae02, Cond.instanceMethod yJ0_isLatin1_aae02, Cond.selects RJ0 yJ0_isLatin1_aae02 yJ0_isLatin1_aae02, Cond.code yJ0_isLatin1_aae02 cJ0_isLatin1_aae02 1 (some .boolean), Cond.methodLink RJ0 495 yJ1_charAt_3b067, Cond.static yJ1_charAt_3b067, Cond.initialized RJ1, Cond.code yJ1_charAt_3b067 cJ1_charAt_3b067 2 (some .char), Cond.methodLink RJ1 9 yJ0_checkIndex_df160]
def wsL_law_r8 : List Cond := [Cond.static yJ0_checkIndex_df160, Cond.code yJ0_checkIndex_df160 cJ0_checkIndex_df160 2 none, Cond.fieldLink RJ0 1053 "jdk/internal/util/Preconditions" "SIOOBE_FORMATTER" "Ljava/util/function/BiFunction;", Cond.methodLink RJ0 1059 yJ3_checkIndex_8e157, Cond.static yJ3_checkIndex_8e157, Cond.initialized RJ3, Cond.code yJ3_checkIndex_8e157 cJ3_checkIndex_8e157 3 (some .int), Cond.methodLink RJ0 498 yJ2_charAt_3b067, Cond.static yJ2_charAt_3b067, Cond.initialized RJ2, Cond.code yJ2_charAt_3b067 cJ2_charAt_3b067 2 (some .char), Cond.methodLink RJ2 67 yJ2_checkIndex_2214a, Cond.static yJ2_checkIndex_2214a, Cond.code yJ2_checkIndex_2214a cJ2_checkIndex_2214a 2 none, Cond.methodLink RJ2 48 yJ2_length_9d52b, Cond.static yJ2_length_9d52b, Cond.code yJ2_length_9d52b cJ2_length_9d52b 1 (some .int), Cond.methodLink RJ2 414 yJ0_checkIndex_df160, Cond.methodLink RJ2 71 yJ2_getChar_3b067, Cond.static yJ2_getChar_3b067, Cond.code yJ2_getChar_3b067 cJ2_getChar_3b067 2 (some .char), Cond.fieldLink RJ2 44 "java/lang/StringUTF16" "$assertionsDisabled" "Z", Cond.fieldLink RJ2 59 "java/lang/StringUTF16" "HI_BYTE_SHIFT" "I", Cond.fieldLink RJ2 63 "java/lang/StringUTF16" "LO_BYTE_SHIFT" "I"]
def wsL_law_r9 : List Cond := [Cond.methodLink RX6 42 yX6_fits, Cond.static yX6_fits, Cond.code yX6_fits cX6_fits 2 (some .boolean), Cond.methodLink RX6 58 yX6_kindOf, Cond.static yX6_kindOf, Cond.code yX6_kindOf cX6_kindOf 1 (some .int), Cond.methodLink RX6 64 yJ0_indexOf_0f7a4, Cond.instanceMethod yJ0_indexOf_0f7a4, Cond.selects RJ0 yJ0_indexOf_0f7a4 yJ0_indexOf_0f7a4, Cond.code yJ0_indexOf_0f7a4 cJ0_indexOf_0f7a4 2 (some .int), Cond.methodLink RJ0 633 yJ0_indexOf_7cf53, Cond.instanceMethod yJ0_indexOf_7cf53, Cond.selects RJ0 yJ0_indexOf_7cf53 yJ0_indexOf_7cf53, Cond.code yJ0_indexOf_7cf53 cJ0_indexOf_7cf53 3 (some .int), Cond.methodLink RJ0 505 yJ0_length_8abf5, Cond.methodLink RJ0 637 yJ1_indexOf_4cfef, Cond.static yJ1_indexOf_4cfef, Cond.code yJ1_indexOf_4cfef cJ1_indexOf_4cfef 4 (some .int), Cond.methodLink RJ1 92 Lib.Math.max.name, Cond.static Lib.Math.max.name, Cond.initialized "java/lang/Math", Cond.code Lib.Math.max.name Lib.Math.max.code 2 (some .int), Cond.methodLink RJ1 38 Lib.Math.min.name, Cond.static Lib.Math.min.name]
def wsL_law_r10 : List Cond := [Cond.code Lib.Math.min.name Lib.Math.min.code 2 (some .int), Cond.methodLink RJ1 88 yJ1_canEncode_9a6ad, Cond.static yJ1_canEncode_9a6ad, Cond.code yJ1_canEncode_9a6ad cJ1_canEncode_9a6ad 1 (some .boolean), Cond.methodLink RJ1 95 yJ1_indexOfChar_4cfef, Cond.static yJ1_indexOfChar_4cfef, Cond.code yJ1_indexOfChar_4cfef cJ1_indexOfChar_4cfef 6 (some .int), Cond.methodLink RJ0 640 yJ2_indexOf_4cfef, Cond.static yJ2_indexOf_4cfef, Cond.code yJ2_indexOf_4cfef cJ2_indexOf_4cfef 4 (some .int), Cond.methodLink RJ2 224 Lib.Math.max.name, Cond.methodLink RJ2 183 Lib.Math.min.name, Cond.constant RJ2 227 (65536), Cond.methodLink RJ2 228 yJ2_indexOfChar_4cfef, Cond.static yJ2_indexOfChar_4cfef, Cond.code yJ2_indexOfChar_4cfef cJ2_indexOfChar_4cfef 4 (some .int), Cond.methodLink RJ2 96 yJ2_checkBoundsBeginEnd_d044e, Cond.static yJ2_checkBoundsBeginEnd_d044e, Cond.code yJ2_checkBoundsBeginEnd_d044e cJ2_checkBoundsBeginEnd_d044e 3 none, Cond.methodLink RJ2 241 yJ0_checkBoundsBeginEnd_23922, Cond.static yJ0_checkBoundsBeginEnd_23922, Cond.code yJ0_checkBoundsBeginEnd_23922 cJ0_checkBoundsBeginEnd_23922 3 none, Cond.methodLink RJ0 1062 yJ3_checkFromToIndex_8c36e, Cond.static yJ3_checkFromToIndex_8c36e]
def wsL_law_r11 : List Cond := [Cond.code yJ3_checkFromToIndex_8c36e cJ3_checkFromToIndex_8c36e 4 (some .int), Cond.methodLink RJ2 244 yJ2_indexOfCharUnsafe_4cfef, Cond.static yJ2_indexOfCharUnsafe_4cfef, Cond.code yJ2_indexOfCharUnsafe_4cfef cJ2_indexOfCharUnsafe_4cfef 5 (some .int), Cond.methodLink RJ2 232 yJ2_indexOfSupplementary_4cfef, Cond.static yJ2_indexOfSupplementary_4cfef, Cond.code yJ2_indexOfSupplementary_4cfef cJ2_indexOfSupplementary_4cfef 7 (some .int), Cond.methodLink RJ2 164 yJ11_isValidCodePoint_9a6ad, Cond.static yJ11_isValidCodePoint_9a6ad, Cond.initialized RJ11, Cond.code yJ11_isValidCodePoint_9a6ad cJ11_isValidCodePoint_9a6ad 2 (some .boolean), Cond.methodLink RJ2 157 yJ11_highSurrogate_5068e, Cond.static yJ11_highSurrogate_5068e, Cond.code yJ11_highSurrogate_5068e cJ11_highSurrogate_5068e 1 (some .char), Cond.constant RJ11 110 (55232), Cond.methodLink RJ2 161 yJ11_lowSurrogate_5068e, Cond.static yJ11_lowSurrogate_5068e, Cond.code yJ11_lowSurrogate_5068e cJ11_lowSurrogate_5068e 1 (some .char), Cond.constant RJ11 76 (56320), Cond.methodLink RX6 27 yX6_shapeOf, Cond.static yX6_shapeOf, Cond.code yX6_shapeOf cX6_shapeOf 1 (some (.object "java/lang/String")), Cond.methodLink RX6 46 yJ0_isEmpty_aae02, Cond.instanceMethod yJ0_isEmpty_aae02]
def wsL_law_r12 : List Cond := [Cond.selects RJ0 yJ0_isEmpty_aae02 yJ0_isEmpty_aae02, Cond.code yJ0_isEmpty_aae02 cJ0_isEmpty_aae02 1 (some .boolean), Cond.methodLink RX6 23 yX6_comesTo, Cond.instanceMethod yX6_comesTo, Cond.selects RX6 yX6_comesTo yX6_comesTo, Cond.code yX6_comesTo cX6_comesTo 3 (some .boolean), Cond.methodLink RX6 67 yX6_signAt, Cond.instanceMethod yX6_signAt, Cond.selects RX6 yX6_signAt yX6_signAt, Cond.code yX6_signAt cX6_signAt 2 (some .int), Cond.methodLink RX6 70 yX6_digitAt, Cond.instanceMethod yX6_digitAt, Cond.selects RX6 yX6_digitAt yX6_digitAt, Cond.code yX6_digitAt cX6_digitAt 2 (some .int), Cond.methodLink RX6 73 yX7_takesIn, Cond.instanceMethod yX7_takesIn, Cond.selects RX7 yX7_takesIn yX7_takesIn, Cond.code yX7_takesIn cX7_takesIn 3 (some .boolean), Cond.methodLink RX6 79 yX6_lendingComes, Cond.static yX6_lendingComes, Cond.code yX6_lendingComes cX6_lendingComes 4 (some .boolean), Cond.methodLink RX6 98 yX7_isThere, Cond.instanceMethod yX7_isThere, Cond.selects RX7 yX7_isThere yX7_isThere]
def wsL_law_r13 : List Cond := [Cond.code yX7_isThere cX7_isThere 2 (some .boolean), Cond.methodLink RX6 102 yX7_canLend, Cond.instanceMethod yX7_canLend, Cond.selects RX7 yX7_canLend yX7_canLend, Cond.code yX7_canLend cX7_canLend 3 (some .boolean), Cond.methodLink RX7 44 yX7_wearsOwn, Cond.instanceMethod yX7_wearsOwn, Cond.selects RX7 yX7_wearsOwn yX7_wearsOwn, Cond.code yX7_wearsOwn cX7_wearsOwn 2 (some .boolean), Cond.methodLink RX6 105 yX7_handOver, Cond.instanceMethod yX7_handOver, Cond.selects RX7 yX7_handOver yX7_handOver, Cond.code yX7_handOver cX7_handOver 3 none, Cond.methodLink RX6 83 yX6_backComes, Cond.static yX6_backComes, Cond.code yX6_backComes cX6_backComes 3 (some .boolean), Cond.methodLink RX6 109 yX7_isLent, Cond.instanceMethod yX7_isLent, Cond.selects RX7 yX7_isLent yX7_isLent, Cond.code yX7_isLent cX7_isLent 2 (some .boolean), Cond.methodLink RX6 112 yX7_bringBack, Cond.instanceMethod yX7_bringBack, Cond.selects RX7 yX7_bringBack yX7_bringBack, Cond.code yX7_bringBack cX7_bringBack 3 (some .int)]
def wsL_law_r14 : List Cond := [Cond.methodLink RX7 48 yX7_wearerOf, Cond.instanceMethod yX7_wearerOf, Cond.selects RX7 yX7_wearerOf yX7_wearerOf, Cond.code yX7_wearerOf cX7_wearerOf 3 (some .int), Cond.methodLink RX6 86 yX6_knowingComes, Cond.static yX6_knowingComes, Cond.code yX6_knowingComes cX6_knowingComes 4 (some .boolean), Cond.methodLink RX6 115 yX7_turnKnowing, Cond.instanceMethod yX7_turnKnowing, Cond.selects RX7 yX7_turnKnowing yX7_turnKnowing, Cond.code yX7_turnKnowing cX7_turnKnowing 3 none, Cond.methodLink RX6 89 yX6_twoDigitsAt, Cond.instanceMethod yX6_twoDigitsAt, Cond.selects RX6 yX6_twoDigitsAt yX6_twoDigitsAt, Cond.code yX6_twoDigitsAt cX6_twoDigitsAt 2 (some .int), Cond.methodLink RX6 92 yX6_fameComes, Cond.static yX6_fameComes, Cond.code yX6_fameComes cX6_fameComes 4 (some .boolean), Cond.methodLink RX6 95 yX6_monthsCome, Cond.static yX6_monthsCome, Cond.code yX6_monthsCome cX6_monthsCome 3 (some .boolean), Cond.methodLink RX6 128 yX7_goOn, Cond.instanceMethod yX7_goOn, Cond.selects RX7 yX7_goOn yX7_goOn]
def wsL_law_r15 : List Cond := [Cond.code yX7_goOn cX7_goOn 4 none, Cond.methodLink RX7 65 yX7_wearForAMonth, Cond.instanceMethod yX7_wearForAMonth, Cond.selects RX7 yX7_wearForAMonth yX7_wearForAMonth, Cond.code yX7_wearForAMonth cX7_wearForAMonth 3 none, Cond.methodLink RX7 72 yX7_changeOfFame, Cond.instanceMethod yX7_changeOfFame, Cond.selects RX7 yX7_changeOfFame yX7_changeOfFame, Cond.code yX7_changeOfFame cX7_changeOfFame 3 (some .int), Cond.methodLink RX7 56 yX7_knowersOf, Cond.instanceMethod yX7_knowersOf, Cond.selects RX7 yX7_knowersOf yX7_knowersOf, Cond.code yX7_knowersOf cX7_knowersOf 4 (some .int), Cond.methodLink RX7 59 ⟨"EachLendsHisFace$Person", "fameChange", "(II)I"⟩, Cond.sameMethod "EachLendsHisFace$Person" "EachLendsHisFace$Person" "fameChange" "(II)I", Cond.instanceMethod ⟨"EachLendsHisFace$Person", "fameChange", "(II)I"⟩, Cond.selects RX0 ⟨"EachLendsHisFace$Person", "fameChange", "(II)I"⟩ yX0_fameChange, Cond.instanceMethod yX0_fameChange, Cond.code yX0_fameChange cX0_fameChange 3 (some .int), Cond.code yX5_fameChange cX5_fameChange 3 (some .int), Cond.selects RX1 ⟨"EachLendsHisFace$Person", "fameChange", "(II)I"⟩ yX1_fameChange, Cond.instanceMethod yX1_fameChange, Cond.code yX1_fameChange cX1_fameChange 3 (some .int), Cond.selects RX2 ⟨"EachLendsHisFace$Person", "fameChange", "(II)I"⟩ yX2_fameChange]
def wsL_law_r16 : List Cond := [Cond.instanceMethod yX2_fameChange, Cond.code yX2_fameChange cX2_fameChange 3 (some .int), Cond.methodLink RX2 7 yX1_fameChange, Cond.sameMethod "EachLendsHisFace$Dentist" "EachLendsHisFace$Dentist" "fameChange" "(II)I", Cond.superclass RX2 RX1, Cond.selects RX3 ⟨"EachLendsHisFace$Person", "fameChange", "(II)I"⟩ yX3_fameChange, Cond.instanceMethod yX3_fameChange, Cond.code yX3_fameChange cX3_fameChange 3 (some .int), Cond.selects RX4 ⟨"EachLendsHisFace$Person", "fameChange", "(II)I"⟩ yX4_fameChange, Cond.instanceMethod yX4_fameChange, Cond.code yX4_fameChange cX4_fameChange 3 (some .int), Cond.methodLink RX7 59 yX5_fameChange, Cond.instanceMethod yX5_fameChange, Cond.selects RX5 yX5_fameChange yX5_fameChange, Cond.static yX8_withinMarks, Cond.code yX8_withinMarks cX8_withinMarks 1 (some .int), Cond.methodLink RX8 255 Lib.Math.min.name, Cond.methodLink RX8 263 Lib.Math.max.name, Cond.methodLink RX7 78 ⟨"EachLendsHisFace$Person", "scarsMore", "(I)I"⟩, Cond.sameMethod "EachLendsHisFace$Person" "EachLendsHisFace$Person" "scarsMore" "(I)I", Cond.selects RX0 ⟨"EachLendsHisFace$Person", "scarsMore", "(I)I"⟩ yX5_scarsMore, Cond.instanceMethod yX5_scarsMore, Cond.code yX5_scarsMore cX5_scarsMore 2 (some .int), Cond.instanceMethod ⟨"EachLendsHisFace$Person", "scarsMore", "(I)I"⟩]
def wsL_law_r17 : List Cond := [Cond.selects RX1 ⟨"EachLendsHisFace$Person", "scarsMore", "(I)I"⟩ yX1_scarsMore, Cond.instanceMethod yX1_scarsMore, Cond.code yX1_scarsMore cX1_scarsMore 2 (some .int), Cond.selects RX2 ⟨"EachLendsHisFace$Person", "scarsMore", "(I)I"⟩ yX1_scarsMore, Cond.selects RX3 ⟨"EachLendsHisFace$Person", "scarsMore", "(I)I"⟩ yX5_scarsMore, Cond.selects RX4 ⟨"EachLendsHisFace$Person", "scarsMore", "(I)I"⟩ yX4_scarsMore, Cond.instanceMethod yX4_scarsMore, Cond.code yX4_scarsMore cX4_scarsMore 2 (some .int), Cond.methodLink RX7 78 yX5_scarsMore, Cond.selects RX5 yX5_scarsMore yX5_scarsMore, Cond.methodLink RX7 69 yX7_keepLentForAMonth, Cond.instanceMethod yX7_keepLentForAMonth, Cond.selects RX7 yX7_keepLentForAMonth yX7_keepLentForAMonth, Cond.code yX7_keepLentForAMonth cX7_keepLentForAMonth 2 none, Cond.methodLink RX7 81 yX7_bringBack, Cond.methodLink RX7 84 yX7_isLent, Cond.methodLink RL 22 yX9_town, Cond.instanceMethod yX9_town, Cond.selects RX9 yX9_town yX9_town, Cond.code yX9_town cX9_town 6 (some .int), Cond.fieldLink RX9 95 "EachLendsHisFaceModel" "place" "I", Cond.methodLink RX9 130 yX9_readsStatement, Cond.instanceMethod yX9_readsStatement, Cond.selects RX9 yX9_readsStatement yX9_readsStatement]
def wsL_law_r18 : List Cond := [Cond.code yX9_readsStatement cX9_readsStatement 3 (some .boolean), Cond.methodLink RX9 98 yX9_here, Cond.instanceMethod yX9_here, Cond.selects RX9 yX9_here yX9_here, Cond.code yX9_here cX9_here 1 (some .int), Cond.methodLink RX9 105 yX9_readsKind, Cond.instanceMethod yX9_readsKind, Cond.selects RX9 yX9_readsKind yX9_readsKind, Cond.code yX9_readsKind cX9_readsKind 1 (some .boolean), Cond.methodLink RX9 102 yX9_kindBy, Cond.static yX9_kindBy, Cond.code yX9_kindBy cX9_kindBy 1 (some .int), Cond.methodLink RX9 109 yX9_readsNumber, Cond.instanceMethod yX9_readsNumber, Cond.selects RX9 yX9_readsNumber yX9_readsNumber, Cond.code yX9_readsNumber cX9_readsNumber 4 (some .boolean), Cond.methodLink RX9 44 yX9_isIn, Cond.static yX9_isIn, Cond.code yX9_isIn cX9_isIn 3 (some .boolean), Cond.methodLink RX9 133 yX9_copies, Cond.static yX9_copies, Cond.code yX9_copies cX9_copies 3 none, Cond.methodLink RX9 137 yX9_isDone, Cond.instanceMethod yX9_isDone]
def wsL_law_r19 : List Cond := [Cond.selects RX9 yX9_isDone yX9_isDone, Cond.code yX9_isDone cX9_isDone 5 (some .boolean), Cond.methodLink RX9 112 yX9_adds, Cond.instanceMethod yX9_adds, Cond.selects RX9 yX9_adds yX9_adds, Cond.code yX9_adds cX9_adds 4 (some .boolean), Cond.methodLink RX9 52 yX9_of, Cond.static yX9_of, Cond.code yX9_of cX9_of 2 (some .int), Cond.methodLink RX9 115 yX9_areTwo, Cond.instanceMethod yX9_areTwo, Cond.selects RX9 yX9_areTwo yX9_areTwo, Cond.code yX9_areTwo cX9_areTwo 3 (some .boolean), Cond.methodLink RX9 48 yX9_isOne, Cond.instanceMethod yX9_isOne, Cond.selects RX9 yX9_isOne yX9_isOne, Cond.code yX9_isOne cX9_isOne 2 (some .boolean), Cond.methodLink RX9 118 yX9_canLend, Cond.static yX9_canLend, Cond.code yX9_canLend cX9_canLend 3 (some .boolean), Cond.methodLink RX9 64 yX9_wearsOwn, Cond.static yX9_wearsOwn, Cond.code yX9_wearsOwn cX9_wearsOwn 2 (some .boolean), Cond.methodLink RX9 122 yX9_lendsIn]
def wsL_law_r20 : List Cond := [Cond.static yX9_lendsIn, Cond.code yX9_lendsIn cX9_lendsIn 3 none, Cond.methodLink RX9 81 yX9_comesBack, Cond.static yX9_comesBack, Cond.code yX9_comesBack cX9_comesBack 3 (some .int), Cond.methodLink RX9 68 yX9_wearerOf, Cond.static yX9_wearerOf, Cond.code yX9_wearerOf cX9_wearerOf 3 (some .int), Cond.methodLink RX9 126 yX9_monthsOn, Cond.static yX9_monthsOn, Cond.code yX9_monthsOn cX9_monthsOn 3 none, Cond.methodLink RX9 84 yX9_month, Cond.static yX9_month, Cond.code yX9_month cX9_month 4 none, Cond.methodLink RX9 72 yX9_fameBy, Cond.static yX9_fameBy, Cond.code yX9_fameBy cX9_fameBy 3 (some .int), Cond.methodLink RX9 60 yX9_knowing, Cond.static yX9_knowing, Cond.code yX9_knowing cX9_knowing 5 (some .int), Cond.methodLink RX9 56 yX9_has, Cond.static yX9_has, Cond.code yX9_has cX9_has 2 (some .boolean), Cond.methodLink RX9 75 yX9_held]
def wsL_law_r21 : List Cond := [Cond.static yX9_held, Cond.code yX9_held cX9_held 1 (some .int), Cond.methodLink RX9 78 yX9_scarsBy, Cond.static yX9_scarsBy, Cond.code yX9_scarsBy cX9_scarsBy 3 (some .int), Cond.methodLink RL 23 yX8_person, Cond.instanceMethod yX8_person, Cond.selects RX8 yX8_person yX8_person, Cond.code yX8_person cX8_person 4 (some .int), Cond.methodLink RX8 96 yX8_personFault, Cond.instanceMethod yX8_personFault, Cond.selects RX8 yX8_personFault yX8_personFault, Cond.code yX8_personFault cX8_personFault 2 (some .int), Cond.methodLink RX8 299 yX7_isThere, Cond.methodLink RX8 99 yX8_whatFault, Cond.static yX8_whatFault, Cond.code yX8_whatFault cX8_whatFault 2 (some .int), Cond.methodLink RL 27 yX9_person, Cond.instanceMethod yX9_person, Cond.selects RX9 yX9_person yX9_person, Cond.code yX9_person cX9_person 3 (some .int), Cond.methodLink RL 28 yX8_face, Cond.instanceMethod yX8_face, Cond.selects RX8 yX8_face yX8_face]
def wsL_law_r22 : List Cond := [Cond.code yX8_face cX8_face 4 (some .int), Cond.methodLink RX8 118 yX7_ofFace, Cond.instanceMethod yX7_ofFace, Cond.selects RX7 yX7_ofFace yX7_ofFace, Cond.code yX7_ofFace cX7_ofFace 3 (some .int), Cond.methodLink RL 31 yX9_face, Cond.instanceMethod yX9_face, Cond.selects RX9 yX9_face yX9_face, Cond.code yX9_face cX9_face 3 (some .int), Cond.methodLink RX9 140 yX9_faceIn, Cond.static yX9_faceIn, Cond.code yX9_faceIn cX9_faceIn 3 (some .int), Cond.methodLink RL 32 yX8_worth, Cond.instanceMethod yX8_worth, Cond.selects RX8 yX8_worth yX8_worth, Cond.code yX8_worth cX8_worth 3 (some .int), Cond.methodLink RX8 121 yX8_refuseFarOff, Cond.instanceMethod yX8_refuseFarOff, Cond.selects RX8 yX8_refuseFarOff yX8_refuseFarOff, Cond.code yX8_refuseFarOff cX8_refuseFarOff 2 (some .int), Cond.constant RX8 302 (1000000000), Cond.methodLink RX8 124 yX7_worthOf, Cond.instanceMethod yX7_worthOf, Cond.selects RX7 yX7_worthOf yX7_worthOf]
def wsL_law_r23 : List Cond := [Cond.code yX7_worthOf cX7_worthOf 2 (some .int), Cond.methodLink RL 35 yX9_worth, Cond.instanceMethod yX9_worth, Cond.selects RX9 yX9_worth yX9_worth, Cond.code yX9_worth cX9_worth 2 (some .int), Cond.methodLink RX9 88 yX9_worthIn, Cond.static yX9_worthIn, Cond.code yX9_worthIn cX9_worthIn 2 (some .int), Cond.methodLink RX9 143 yX9_noFar, Cond.instanceMethod yX9_noFar, Cond.selects RX9 yX9_noFar yX9_noFar, Cond.code yX9_noFar cX9_noFar 2 (some .int), Cond.constant RX9 37 (1000000000), Cond.methodLink RL 36 yX8_lends, Cond.instanceMethod yX8_lends, Cond.selects RX8 yX8_lends yX8_lends, Cond.code yX8_lends cX8_lends 4 (some .int), Cond.methodLink RX8 127 yX8_twoFault, Cond.instanceMethod yX8_twoFault, Cond.selects RX8 yX8_twoFault yX8_twoFault, Cond.code yX8_twoFault cX8_twoFault 3 (some .int), Cond.methodLink RX8 130 yX7_canLend, Cond.methodLink RX8 134 yX7_handOver, Cond.methodLink RX8 138 yX7_lentFaces]
def wsL_law_r24 : List Cond := [Cond.instanceMethod yX7_lentFaces, Cond.selects RX7 yX7_lentFaces yX7_lentFaces, Cond.code yX7_lentFaces cX7_lentFaces 3 (some .int), Cond.methodLink RL 39 yX9_lends, Cond.instanceMethod yX9_lends, Cond.selects RX9 yX9_lends yX9_lends, Cond.code yX9_lends cX9_lends 3 (some .int), Cond.methodLink RX9 146 yX9_lentIn, Cond.static yX9_lentIn, Cond.code yX9_lentIn cX9_lentIn 3 (some .int), Cond.methodLink RL 40 yX8_back, Cond.instanceMethod yX8_back, Cond.selects RX8 yX8_back yX8_back, Cond.code yX8_back cX8_back 3 (some .int), Cond.methodLink RX8 142 yX7_isLent, Cond.methodLink RX8 145 yX7_bringBack, Cond.methodLink RL 43 yX9_back, Cond.instanceMethod yX9_back, Cond.selects RX9 yX9_back yX9_back, Cond.code yX9_back cX9_back 2 (some .int), Cond.methodLink RL 44 yX8_learns, Cond.instanceMethod yX8_learns, Cond.selects RX8 yX8_learns yX8_learns, Cond.code yX8_learns cX8_learns 4 (some .int)]
def wsL_law_r25 : List Cond := [Cond.methodLink RX8 148 yX7_turnKnowing, Cond.methodLink RX8 151 yX7_knowsFace, Cond.instanceMethod yX7_knowsFace, Cond.selects RX7 yX7_knowsFace yX7_knowsFace, Cond.code yX7_knowsFace cX7_knowsFace 3 (some .boolean), Cond.methodLink RL 47 yX9_learns, Cond.instanceMethod yX9_learns, Cond.selects RX9 yX9_learns yX9_learns, Cond.code yX9_learns cX9_learns 3 (some .int), Cond.methodLink RL 48 yX8_becomes, Cond.instanceMethod yX8_becomes, Cond.selects RX8 yX8_becomes yX8_becomes, Cond.code yX8_becomes cX8_becomes 7 (some .int), Cond.methodLink RX8 154 yX8_firstOfThree, Cond.static yX8_firstOfThree, Cond.code yX8_firstOfThree cX8_firstOfThree 3 (some .int), Cond.methodLink RL 52 yX9_becomes, Cond.instanceMethod yX9_becomes, Cond.selects RX9 yX9_becomes yX9_becomes, Cond.code yX9_becomes cX9_becomes 6 (some .int), Cond.methodLink RX9 150 yX9_wrongBy, Cond.static yX9_wrongBy, Cond.code yX9_wrongBy cX9_wrongBy 2 (some .int), Cond.methodLink RL 53 yX8_turn]
def wsL_law_r26 : List Cond := [Cond.instanceMethod yX8_turn, Cond.selects RX8 yX8_turn yX8_turn, Cond.code yX8_turn cX8_turn 6 (some .int), Cond.methodLink RL 56 yX9_turn, Cond.instanceMethod yX9_turn, Cond.selects RX9 yX9_turn yX9_turn, Cond.code yX9_turn cX9_turn 6 (some .int), Cond.methodLink RL 57 yX8_months, Cond.instanceMethod yX8_months, Cond.selects RX8 yX8_months yX8_months, Cond.code yX8_months cX8_months 3 (some .int), Cond.methodLink RX8 166 yX7_goOn, Cond.methodLink RL 60 yX9_months, Cond.instanceMethod yX9_months, Cond.selects RX9 yX9_months yX9_months, Cond.code yX9_months cX9_months 2 (some .int), Cond.methodLink RL 61 yX8_faceThen, Cond.instanceMethod yX8_faceThen, Cond.selects RX8 yX8_faceThen yX8_faceThen, Cond.code yX8_faceThen cX8_faceThen 5 (some .int), Cond.methodLink RX8 170 yX8_think, Cond.instanceMethod yX8_think, Cond.selects RX8 yX8_think yX8_think, Cond.code yX8_think cX8_think 2 none]
def wsL_law_r27 : List Cond := [Cond.methodLink RL 64 yX9_faceThen, Cond.instanceMethod yX9_faceThen, Cond.selects RX9 yX9_faceThen yX9_faceThen, Cond.code yX9_faceThen cX9_faceThen 5 (some .int), Cond.methodLink RL 65 yX8_wornThen, Cond.instanceMethod yX8_wornThen, Cond.selects RX8 yX8_wornThen yX8_wornThen, Cond.code yX8_wornThen cX8_wornThen 4 (some .int), Cond.methodLink RL 68 yX9_wornThen, Cond.instanceMethod yX9_wornThen, Cond.selects RX9 yX9_wornThen yX9_wornThen, Cond.code yX9_wornThen cX9_wornThen 4 (some .int), Cond.methodLink RL 69 yX8_first, Cond.instanceMethod yX8_first, Cond.selects RX8 yX8_first yX8_first, Cond.code yX8_first cX8_first 3 (some .int), Cond.methodLink RX8 173 yX8_monthsTillHome, Cond.instanceMethod yX8_monthsTillHome, Cond.selects RX8 yX8_monthsTillHome yX8_monthsTillHome, Cond.code yX8_monthsTillHome cX8_monthsTillHome 2 (some .int), Cond.methodLink RX8 179 yX7_allWearTheirOwn, Cond.instanceMethod yX7_allWearTheirOwn, Cond.selects RX7 yX7_allWearTheirOwn yX7_allWearTheirOwn, Cond.code yX7_allWearTheirOwn cX7_allWearTheirOwn 2 (some .boolean)]
def wsL_law_r28 : List Cond := [Cond.methodLink RX8 176 yX8_firstWithoutFame, Cond.instanceMethod yX8_firstWithoutFame, Cond.selects RX8 yX8_firstWithoutFame yX8_firstWithoutFame, Cond.code yX8_firstWithoutFame cX8_firstWithoutFame 4 (some .int), Cond.methodLink RX8 183 yX7_faceWithoutFame, Cond.instanceMethod yX7_faceWithoutFame, Cond.selects RX7 yX7_faceWithoutFame yX7_faceWithoutFame, Cond.code yX7_faceWithoutFame cX7_faceWithoutFame 2 (some .int), Cond.methodLink RL 72 yX9_first, Cond.instanceMethod yX9_first, Cond.selects RX9 yX9_first yX9_first, Cond.code yX9_first cX9_first 4 (some .int), Cond.methodLink RX9 153 yX9_areHome, Cond.static yX9_areHome, Cond.code yX9_areHome cX9_areHome 2 (some .boolean), Cond.methodLink RL 73 yX8_meets, Cond.instanceMethod yX8_meets, Cond.selects RX8 yX8_meets yX8_meets, Cond.code yX8_meets cX8_meets 4 (some .int), Cond.methodLink RX8 186 yX7_takenFor, Cond.instanceMethod yX7_takenFor, Cond.selects RX7 yX7_takenFor yX7_takenFor, Cond.code yX7_takenFor cX7_takenFor 4 (some .int), Cond.methodLink RX7 52 yX7_knowsFace]
def wsL_law_r29 : List Cond := [Cond.methodLink RL 76 yX9_meets, Cond.instanceMethod yX9_meets, Cond.selects RX9 yX9_meets yX9_meets, Cond.code yX9_meets cX9_meets 3 (some .int), Cond.methodLink RX9 157 yX9_meetsOne, Cond.instanceMethod yX9_meetsOne, Cond.selects RX9 yX9_meetsOne yX9_meetsOne, Cond.code yX9_meetsOne cX9_meetsOne 4 (some .int), Cond.methodLink RL 77 yX8_deceived, Cond.instanceMethod yX8_deceived, Cond.selects RX8 yX8_deceived yX8_deceived, Cond.code yX8_deceived cX8_deceived 6 (some .int), Cond.methodLink RX8 189 yX7_wearsOwn, Cond.methodLink RL 80 yX9_deceived, Cond.instanceMethod yX9_deceived, Cond.selects RX9 yX9_deceived yX9_deceived, Cond.code yX9_deceived cX9_deceived 4 (some .int), Cond.methodLink RL 81 yX8_famous, Cond.instanceMethod yX8_famous, Cond.selects RX8 yX8_famous yX8_famous, Cond.code yX8_famous cX8_famous 7 (some .int), Cond.methodLink RL 84 yX9_famous, Cond.instanceMethod yX9_famous, Cond.selects RX9 yX9_famous yX9_famous]
def wsL_law_r30 : List Cond := [Cond.code yX9_famous cX9_famous 4 (some .int), Cond.methodLink RL 85 yX8_lend, Cond.instanceMethod yX8_lend, Cond.selects RX8 yX8_lend yX8_lend, Cond.code yX8_lend cX8_lend 5 (some .int), Cond.methodLink RX8 210 yX8_bestPartner, Cond.instanceMethod yX8_bestPartner, Cond.selects RX8 yX8_bestPartner yX8_bestPartner, Cond.code yX8_bestPartner cX8_bestPartner 9 (some .int), Cond.methodLink RX8 214 yX8_thinkOfLending, Cond.instanceMethod yX8_thinkOfLending, Cond.selects RX8 yX8_thinkOfLending yX8_thinkOfLending, Cond.code yX8_thinkOfLending cX8_thinkOfLending 4 none, Cond.methodLink RL 88 yX9_lend, Cond.instanceMethod yX9_lend, Cond.selects RX9 yX9_lend yX9_lend, Cond.code yX9_lend cX9_lend 10 (some .int), Cond.methodLink RX9 166 yX9_wrongLend, Cond.instanceMethod yX9_wrongLend, Cond.selects RX9 yX9_wrongLend yX9_wrongLend, Cond.code yX9_wrongLend cX9_wrongLend 3 (some .int), Cond.methodLink RX9 169 yX9_worthNow, Cond.instanceMethod yX9_worthNow, Cond.selects RX9 yX9_worthNow yX9_worthNow]
def wsL_law_r31 : List Cond := [Cond.code yX9_worthNow cX9_worthNow 3 (some .int), Cond.methodLink RX9 163 yX9_worthBehind, Cond.instanceMethod yX9_worthBehind, Cond.selects RX9 yX9_worthBehind yX9_worthBehind, Cond.code yX9_worthBehind cX9_worthBehind 3 (some .int), Cond.methodLink RX9 160 yX9_worthAll, Cond.static yX9_worthAll, Cond.code yX9_worthAll cX9_worthAll 3 (some .int), Cond.methodLink RL 89 yX8_take, Cond.instanceMethod yX8_take, Cond.selects RX8 yX8_take yX8_take, Cond.code yX8_take cX8_take 4 (some .int), Cond.methodLink RL 92 yX9_take, Cond.instanceMethod yX9_take, Cond.selects RX9 yX9_take yX9_take, Cond.code yX9_take cX9_take 8 (some .int), Cond.methodLink RL 93 yX8_keep, Cond.instanceMethod yX8_keep, Cond.selects RX8 yX8_keep yX8_keep, Cond.code yX8_keep cX8_keep 6 (some .int), Cond.methodLink RX8 218 yX7_allWorths, Cond.instanceMethod yX7_allWorths, Cond.selects RX7 yX7_allWorths yX7_allWorths, Cond.code yX7_allWorths cX7_allWorths 1 (some .int)]
def wsL_law_r32 : List Cond := [Cond.methodLink RX7 91 yX7_allFame, Cond.instanceMethod yX7_allFame, Cond.selects RX7 yX7_allFame yX7_allFame, Cond.code yX7_allFame cX7_allFame 1 (some .int), Cond.methodLink RX7 87 yX7_sumOf, Cond.instanceMethod yX7_sumOf, Cond.selects RX7 yX7_sumOf yX7_sumOf, Cond.code yX7_sumOf cX7_sumOf 4 (some .int), Cond.methodLink RX7 95 yX7_allScars, Cond.instanceMethod yX7_allScars, Cond.selects RX7 yX7_allScars yX7_allScars, Cond.code yX7_allScars cX7_allScars 1 (some .int), Cond.methodLink RL 96 yX9_keep, Cond.instanceMethod yX9_keep, Cond.selects RX9 yX9_keep yX9_keep, Cond.code yX9_keep cX9_keep 8 (some .int), Cond.methodLink RL 97 yX8_chained, Cond.instanceMethod yX8_chained, Cond.selects RX8 yX8_chained yX8_chained, Cond.code yX8_chained cX8_chained 3 (some .int), Cond.methodLink RX8 195 yX7_wearersOfOthers, Cond.instanceMethod yX7_wearersOfOthers, Cond.selects RX7 yX7_wearersOfOthers yX7_wearersOfOthers, Cond.code yX7_wearersOfOthers cX7_wearersOfOthers 3 (some .int)]
def wsL_law_r33 : List Cond := [Cond.methodLink RX8 198 yX7_plainWearers, Cond.instanceMethod yX7_plainWearers, Cond.selects RX7 yX7_plainWearers yX7_plainWearers, Cond.code yX7_plainWearers cX7_plainWearers 3 (some .int), Cond.methodLink RX8 201 yX7_facesSeen, Cond.instanceMethod yX7_facesSeen, Cond.selects RX7 yX7_facesSeen yX7_facesSeen, Cond.code yX7_facesSeen cX7_facesSeen 3 (some .int), Cond.methodLink RL 100 yX9_chained, Cond.instanceMethod yX9_chained, Cond.selects RX9 yX9_chained yX9_chained, Cond.code yX9_chained cX9_chained 6 (some .int), Cond.methodLink RX9 172 yX9_plainSet, Cond.static yX9_plainSet, Cond.code yX9_plainSet cX9_plainSet 3 (some .int), Cond.methodLink RL 101 yX8_lot, Cond.instanceMethod yX8_lot, Cond.selects RX8 yX8_lot yX8_lot, Cond.code yX8_lot cX8_lot 8 (some .int), Cond.methodLink RX8 221 yX8_findFree, Cond.instanceMethod yX8_findFree, Cond.selects RX8 yX8_findFree yX8_findFree, Cond.code yX8_findFree cX8_findFree 3 (some .int), Cond.methodLink RX8 224 yX8_worthsOfLot]
def wsL_law_r34 : List Cond := [Cond.instanceMethod yX8_worthsOfLot, Cond.selects RX8 yX8_worthsOfLot yX8_worthsOfLot, Cond.code yX8_worthsOfLot cX8_worthsOfLot 5 (some .int), Cond.methodLink RL 104 yX9_lot, Cond.instanceMethod yX9_lot, Cond.selects RX9 yX9_lot yX9_lot, Cond.code yX9_lot cX9_lot 8 (some .int), Cond.constant RX9 178 (-1000000000), Cond.methodLink RX9 175 yX9_pairsBy, Cond.instanceMethod yX9_pairsBy, Cond.selects RX9 yX9_pairsBy yX9_pairsBy, Cond.code yX9_pairsBy cX9_pairsBy 5 (some .int), Cond.methodLink RL 105 yX8_fewest, Cond.instanceMethod yX8_fewest, Cond.selects RX8 yX8_fewest yX8_fewest, Cond.code yX8_fewest cX8_fewest 6 (some .int), Cond.methodLink RX8 227 yX8_firstLenderBringing, Cond.instanceMethod yX8_firstLenderBringing, Cond.selects RX8 yX8_firstLenderBringing yX8_firstLenderBringing, Cond.code yX8_firstLenderBringing cX8_firstLenderBringing 5 (some .int), Cond.methodLink RL 108 yX9_fewest, Cond.instanceMethod yX9_fewest, Cond.selects RX9 yX9_fewest yX9_fewest, Cond.code yX9_fewest cX9_fewest 7 (some .int)]
def wsL_law_r35 : List Cond := [Cond.methodLink RX9 179 yX9_isFamedBehind, Cond.instanceMethod yX9_isFamedBehind, Cond.selects RX9 yX9_isFamedBehind yX9_isFamedBehind, Cond.code yX9_isFamedBehind cX9_isFamedBehind 4 (some .boolean), Cond.methodLink RX9 185 yX9_firstLender, Cond.instanceMethod yX9_firstLender, Cond.selects RX9 yX9_firstLender yX9_firstLender, Cond.code yX9_firstLender cX9_firstLender 6 (some .int), Cond.methodLink RX9 182 yX9_canBeBy, Cond.instanceMethod yX9_canBeBy, Cond.selects RX9 yX9_canBeBy yX9_canBeBy, Cond.code yX9_canBeBy cX9_canBeBy 5 (some .boolean), Cond.methodLink RL 109 yX8_who, Cond.instanceMethod yX8_who, Cond.selects RX8 yX8_who yX8_who, Cond.code yX8_who cX8_who 5 (some .int), Cond.methodLink RX8 270 yX8_wearingFits, Cond.instanceMethod yX8_wearingFits, Cond.selects RX8 yX8_wearingFits yX8_wearingFits, Cond.code yX8_wearingFits cX8_wearingFits 6 (some .boolean), Cond.methodLink RX8 273 yX7_changeOfFame, Cond.methodLink RX8 276 yX8_withinMarks, Cond.methodLink RL 112 yX9_who, Cond.instanceMethod yX9_who]
def wsL_law_r36 : List Cond := [Cond.selects RX9 yX9_who yX9_who, Cond.code yX9_who cX9_who 7 (some .int), Cond.fieldLink RX9 189 "EachLendsHisFaceModel" "rowMany" "I", Cond.methodLink RL 113 yX8_widow, Cond.instanceMethod yX8_widow, Cond.selects RX8 yX8_widow yX8_widow, Cond.code yX8_widow cX8_widow 5 (some .int), Cond.methodLink RX8 204 yX7_wearerOf, Cond.methodLink RL 116 yX9_widow, Cond.instanceMethod yX9_widow, Cond.selects RX9 yX9_widow yX9_widow, Cond.code yX9_widow cX9_widow 4 (some .int), Cond.methodLink RL 117 yX8_twins, Cond.instanceMethod yX8_twins, Cond.selects RX8 yX8_twins yX8_twins, Cond.code yX8_twins cX8_twins 7 (some .int), Cond.methodLink RX8 207 yX7_lookAlike, Cond.instanceMethod yX7_lookAlike, Cond.selects RX7 yX7_lookAlike yX7_lookAlike, Cond.code yX7_lookAlike cX7_lookAlike 3 (some .boolean), Cond.methodLink RL 120 yX9_twins, Cond.instanceMethod yX9_twins, Cond.selects RX9 yX9_twins yX9_twins, Cond.code yX9_twins cX9_twins 6 (some .int)]
def wsL_law_r37 : List Cond := [Cond.methodLink RL 121 yX8_two, Cond.instanceMethod yX8_two, Cond.selects RX8 yX8_two yX8_two, Cond.code yX8_two cX8_two 6 (some .int), Cond.methodLink RX8 230 yX8_firstSettledChoice, Cond.instanceMethod yX8_firstSettledChoice, Cond.selects RX8 yX8_firstSettledChoice yX8_firstSettledChoice, Cond.code yX8_firstSettledChoice cX8_firstSettledChoice 4 (some .int), Cond.methodLink RL 124 yX9_two, Cond.instanceMethod yX9_two, Cond.selects RX9 yX9_two yX9_two, Cond.code yX9_two cX9_two 8 (some .int), Cond.methodLink RX9 192 yX9_worthBoth, Cond.instanceMethod yX9_worthBoth, Cond.selects RX9 yX9_worthBoth yX9_worthBoth, Cond.code yX9_worthBoth cX9_worthBoth 7 (some .int), Cond.methodLink RL 125 yX8_quarrel, Cond.instanceMethod yX8_quarrel, Cond.selects RX8 yX8_quarrel yX8_quarrel, Cond.code yX8_quarrel cX8_quarrel 9 (some .long), Cond.methodLink RX8 239 yX8_refuseLong, Cond.instanceMethod yX8_refuseLong, Cond.selects RX8 yX8_refuseLong yX8_refuseLong, Cond.code yX8_refuseLong cX8_refuseLong 2 (some .long)]
def wsL_law_r38 : List Cond := [Cond.constantLong RX8 303 (4000000000000000000), Cond.methodLink RX8 243 yX8_waysOfScars, Cond.static yX8_waysOfScars, Cond.code yX8_waysOfScars cX8_waysOfScars 9 (some .long), Cond.methodLink RX8 247 yX8_power, Cond.static yX8_power, Cond.code yX8_power cX8_power 6 (some .long), Cond.methodLink RX8 251 yX8_partOfFraction, Cond.static yX8_partOfFraction, Cond.code yX8_partOfFraction cX8_partOfFraction 9 (some .long), Cond.methodLink RX8 266 yX8_greatestShared, Cond.static yX8_greatestShared, Cond.code yX8_greatestShared cX8_greatestShared 11 (some .long), Cond.methodLink RL 129 yX9_quarrel, Cond.instanceMethod yX9_quarrel, Cond.selects RX9 yX9_quarrel yX9_quarrel, Cond.code yX9_quarrel cX9_quarrel 14 (some .long), Cond.methodLink RX9 200 yX9_noWide, Cond.instanceMethod yX9_noWide, Cond.selects RX9 yX9_noWide yX9_noWide, Cond.code yX9_noWide cX9_noWide 2 (some .long), Cond.constantLong RX9 42 (4000000000000000000), Cond.methodLink RX9 204 yX9_partOf, Cond.static yX9_partOf]
def wsL_law_r39 : List Cond := [Cond.code yX9_partOf cX9_partOf 5 (some .long), Cond.methodLink RX9 196 yX9_gcd, Cond.static yX9_gcd, Cond.code yX9_gcd cX9_gcd 10 (some .long), Cond.methodLink RL 130 yX8_mean, Cond.instanceMethod yX8_mean, Cond.selects RX8 yX8_mean yX8_mean, Cond.code yX8_mean cX8_mean 3 (some .long), Cond.methodLink RX8 260 yX7_allFame, Cond.methodLink RL 134 yX9_mean, Cond.instanceMethod yX9_mean, Cond.selects RX9 yX9_mean yX9_mean, Cond.code yX9_mean cX9_mean 2 (some .long), Cond.methodLink RX9 208 yX9_allOf, Cond.static yX9_allOf, Cond.code yX9_allOf cX9_allOf 4 (some .int), Cond.methodLink RL 135 yX8_whatIs, Cond.instanceMethod yX8_whatIs, Cond.selects RX8 yX8_whatIs yX8_whatIs, Cond.code yX8_whatIs cX8_whatIs 8 (some .int), Cond.methodLink RX8 279 yX8_mindFits, Cond.instanceMethod yX8_mindFits, Cond.selects RX8 yX8_mindFits yX8_mindFits, Cond.code yX8_mindFits cX8_mindFits 3 (some .boolean)]
def wsL_law_r40 : List Cond := [Cond.methodLink RL 138 yX9_whatIs, Cond.instanceMethod yX9_whatIs, Cond.selects RX9 yX9_whatIs yX9_whatIs, Cond.code yX9_whatIs cX9_whatIs 8 (some .int), Cond.methodLink RL 139 yX8_row, Cond.instanceMethod yX8_row, Cond.selects RX8 yX8_row yX8_row, Cond.code yX8_row cX8_row 3 (some .int), Cond.methodLink RL 142 yX9_row, Cond.instanceMethod yX9_row, Cond.selects RX9 yX9_row yX9_row, Cond.code yX9_row cX9_row 3 (some .int), Cond.methodLink RL 143 yX8_judge, Cond.instanceMethod yX8_judge, Cond.selects RX8 yX8_judge yX8_judge, Cond.code yX8_judge cX8_judge 3 (some .int), Cond.methodLink RL 146 yX9_judge, Cond.instanceMethod yX9_judge, Cond.selects RX9 yX9_judge yX9_judge, Cond.code yX9_judge cX9_judge 3 (some .int), Cond.methodLink RL 147 yX8_clear, Cond.instanceMethod yX8_clear, Cond.selects RX8 yX8_clear yX8_clear, Cond.code yX8_clear cX8_clear 2 (some .int)]
def wsL_law_r41 : List Cond := [Cond.methodLink RL 150 yX9_clear, Cond.instanceMethod yX9_clear, Cond.selects RX9 yX9_clear yX9_clear, Cond.code yX9_clear cX9_clear 2 (some .int), Cond.methodLink RL 151 yX8_lots, Cond.instanceMethod yX8_lots, Cond.selects RX8 yX8_lots yX8_lots, Cond.code yX8_lots cX8_lots 8 (some .int), Cond.methodLink RX8 282 yX8_drawTown, Cond.instanceMethod yX8_drawTown, Cond.selects RX8 yX8_drawTown yX8_drawTown, Cond.code yX8_drawTown cX8_drawTown 6 (some .int), Cond.methodLink RX8 288 yX8_nextSeed, Cond.static yX8_nextSeed, Cond.code yX8_nextSeed cX8_nextSeed 1 (some .int), Cond.constant RX8 294 (1664525), Cond.constant RX8 295 (1013904223), Cond.methodLink RX8 291 yX8_drawBelow, Cond.static yX8_drawBelow, Cond.code yX8_drawBelow cX8_drawBelow 2 (some .int), Cond.constant RX8 298 (2147483647), Cond.methodLink RX8 285 yX7_allScars, Cond.methodLink RL 154 yX9_lots, Cond.instanceMethod yX9_lots]
def wsL_law_r42 : List Cond := [Cond.selects RX9 yX9_lots yX9_lots, Cond.code yX9_lots cX9_lots 9 (some .int), Cond.fieldLink RX9 211 "EachLendsHisFaceModel" "seed" "I", Cond.methodLink RX9 217 yX9_drawn, Cond.instanceMethod yX9_drawn, Cond.selects RX9 yX9_drawn yX9_drawn, Cond.code yX9_drawn cX9_drawn 2 (some .int), Cond.constant RX9 214 (1664525), Cond.constant RX9 215 (1013904223), Cond.constant RX9 216 (2147483647), Cond.methodLink RL 155 yX8_image, Cond.instanceMethod yX8_image, Cond.selects RX8 yX8_image yX8_image, Cond.code yX8_image cX8_image 1 (some .int), Cond.methodLink RL 158 yX9_image, Cond.instanceMethod yX9_image, Cond.selects RX9 yX9_image yX9_image, Cond.code yX9_image cX9_image 1 (some .int), Cond.fieldLink RX9 220 "EachLendsHisFaceModel" "hasImage" "Z", Cond.methodLink RL 159 yX8_on, Cond.instanceMethod yX8_on, Cond.selects RX8 yX8_on yX8_on, Cond.code yX8_on cX8_on 1 (some .int), Cond.methodLink RL 162 yX9_on]
def wsL_law_r43 : List Cond := [Cond.instanceMethod yX9_on, Cond.selects RX9 yX9_on yX9_on, Cond.code yX9_on cX9_on 1 (some .int), Cond.methodLink RL 163 yX8_count, Cond.instanceMethod yX8_count, Cond.selects RX8 yX8_count yX8_count, Cond.code yX8_count cX8_count 2 (some .int), Cond.methodLink RL 166 yX9_count, Cond.instanceMethod yX9_count, Cond.selects RX9 yX9_count yX9_count, Cond.code yX9_count cX9_count 2 (some .int)]
def wsL_law : List Cond := (wsL_law_r1 ++ (wsL_law_r2 ++ (wsL_law_r3 ++ (wsL_law_r4 ++ (wsL_law_r5 ++ (wsL_law_r6 ++ (wsL_law_r7 ++ (wsL_law_r8 ++ (wsL_law_r9 ++ (wsL_law_r10 ++ (wsL_law_r11 ++ (wsL_law_r12 ++ (wsL_law_r13 ++ (wsL_law_r14 ++ (wsL_law_r15 ++ (wsL_law_r16 ++ (wsL_law_r17 ++ (wsL_law_r18 ++ (wsL_law_r19 ++ (wsL_law_r20 ++ (wsL_law_r21 ++ (wsL_law_r22 ++ (wsL_law_r23 ++ (wsL_law_r24 ++ (wsL_law_r25 ++ (wsL_law_r26 ++ (wsL_law_r27 ++ (wsL_law_r28 ++ (wsL_law_r29 ++ (wsL_law_r30 ++ (wsL_law_r31 ++ (wsL_law_r32 ++ (wsL_law_r33 ++ (wsL_law_r34 ++ (wsL_law_r35 ++ (wsL_law_r36 ++ (wsL_law_r37 ++ (wsL_law_r38 ++ (wsL_law_r39 ++ (wsL_law_r40 ++ (wsL_law_r41 ++ (wsL_law_r42 ++ wsL_law_r43)))))))))))))))))))))))))))))))))))))))))) ++ wsX80 ++ wsX90 ++ wsX50 ++ wsX00 ++ wsX40 ++ wsX30 ++ wsX10 ++ wsX20 ++ wsX70 ++ wsX60 ++ ([] : List Cond)
theorem inlX0 : ∀ w ∈ wsX00, w ∈ wsL_law := fun _ h => List.mem_append_left _ (List.mem_append_left _ (List.mem_append_left _ (List.mem_append_left _ (List.mem_append_left _ (List.mem_append_left _ (List.mem_append_left _ (List.mem_append_right _ h)))))))
theorem inlX1 : ∀ w ∈ wsX10, w ∈ wsL_law := fun _ h => List.mem_append_left _ (List.mem_append_left _ (List.mem_append_left _ (List.mem_append_left _ (List.mem_append_right _ h))))
theorem inlX2 : ∀ w ∈ wsX20, w ∈ wsL_law := fun _ h => List.mem_append_left _ (List.mem_append_left _ (List.mem_append_left _ (List.mem_append_right _ h)))
theorem inlX3 : ∀ w ∈ wsX30, w ∈ wsL_law := fun _ h => List.mem_append_left _ (List.mem_append_left _ (List.mem_append_left _ (List.mem_append_left _ (List.mem_append_left _ (List.mem_append_right _ h)))))
theorem inlX4 : ∀ w ∈ wsX40, w ∈ wsL_law := fun _ h => List.mem_append_left _ (List.mem_append_left _ (List.mem_append_left _ (List.mem_append_left _ (List.mem_append_left _ (List.mem_append_left _ (List.mem_append_right _ h))))))
theorem inlX5 : ∀ w ∈ wsX50, w ∈ wsL_law := fun _ h => List.mem_append_left _ (List.mem_append_left _ (List.mem_append_left _ (List.mem_append_left _ (List.mem_append_left _ (List.mem_append_left _ (List.mem_append_left _ (List.mem_append_left _ (List.mem_append_right _ h))))))))
theorem inlX6 : ∀ w ∈ wsX60, w ∈ wsL_law := fun _ h => List.mem_append_left _ (List.mem_append_right _ h)
theorem inlX7 : ∀ w ∈ wsX70, w ∈ wsL_law := fun _ h => List.mem_append_left _ (List.mem_append_left _ (List.mem_append_right _ h))
theorem inlX8 : ∀ w ∈ wsX80, w ∈ wsL_law := fun _ h => List.mem_append_left _ (List.mem_append_left _ (List.mem_append_left _ (List.mem_append_left _ (List.mem_append_left _ (List.mem_append_left _ (List.mem_append_left _ (List.mem_append_left _ (List.mem_append_left _ (List.mem_append_left _ (List.mem_append_right _ h))))))))))
theorem inlX9 : ∀ w ∈ wsX90, w ∈ wsL_law := fun _ h => List.mem_append_left _ (List.mem_append_left _ (List.mem_append_left _ (List.mem_append_left _ (List.mem_append_left _ (List.mem_append_left _ (List.mem_append_left _ (List.mem_append_left _ (List.mem_append_left _ (List.mem_append_right _ h)))))))))
abbrev vwCl : List vw_C := [(RX0, TX0, 0), (RX1, TX1, 0), (RX2, TX2, 0), (RX3, TX3, 0), (RX4, TX4, 0), (RX5, TX5, 0), (RX6, TX6, 2), (RX7, TX7, 10), (RX8, TX8, 11), (RX9, TX9, 14)]
end
section
theorem dX0_init_0 : decode cX0_init 0 = .ok (.aload_n 0, 1) := by decide +kernel
theorem dX0_init_1 : decode cX0_init 1 = .ok (.invokespecial 1, 3) := by decide +kernel
theorem dX0_init_4 : decode cX0_init 4 = .ok (.return_, 1) := by decide +kernel
theorem dX0_fameChange_0 : decode cX0_fameChange 0 = .ok (.iload_n 1, 1) := by decide +kernel
theorem dX0_fameChange_1 : decode cX0_fameChange 1 = .ok (.iconst 3, 1) := by decide +kernel
theorem dX0_fameChange_2 : decode cX0_fameChange 2 = .ok (.idiv, 1) := by decide +kernel
theorem dX0_fameChange_3 : decode cX0_fameChange 3 = .ok (.ineg, 1) := by decide +kernel
theorem dX0_fameChange_4 : decode cX0_fameChange 4 = .ok (.ireturn, 1) := by decide +kernel
theorem dX1_init_0 : decode cX1_init 0 = .ok (.aload_n 0, 1) := by decide +kernel
theorem dX1_init_1 : decode cX1_init 1 = .ok (.invokespecial 1, 3) := by decide +kernel
theorem dX1_init_4 : decode cX1_init 4 = .ok (.return_, 1) := by decide +kernel
theorem dX1_fameChange_0 : decode cX1_fameChange 0 = .ok (.iload_n 2, 1) := by decide +kernel
theorem dX1_fameChange_1 : decode cX1_fameChange 1 = .ok (.ireturn, 1) := by decide +kernel
theorem dX1_scarsMore_0 : decode cX1_scarsMore 0 = .ok (.iload_n 1, 1) := by decide +kernel
theorem dX1_scarsMore_1 : decode cX1_scarsMore 1 = .ok (.iconst 5, 1) := by decide +kernel
theorem dX1_scarsMore_2 : decode cX1_scarsMore 2 = .ok (.if_icmp .le 7, 3) := by decide +kernel
theorem dX1_scarsMore_5 : decode cX1_scarsMore 5 = .ok (.iconst 1, 1) := by decide +kernel
theorem dX1_scarsMore_6 : decode cX1_scarsMore 6 = .ok (.goto 4, 3) := by decide +kernel
theorem dX1_scarsMore_9 : decode cX1_scarsMore 9 = .ok (.iconst 0, 1) := by decide +kernel
theorem dX1_scarsMore_10 : decode cX1_scarsMore 10 = .ok (.ireturn, 1) := by decide +kernel
theorem dX2_init_0 : decode cX2_init 0 = .ok (.aload_n 0, 1) := by decide +kernel
theorem dX2_init_1 : decode cX2_init 1 = .ok (.invokespecial 1, 3) := by decide +kernel
theorem dX2_init_4 : decode cX2_init 4 = .ok (.return_, 1) := by decide +kernel
theorem dX2_fameChange_0 : decode cX2_fameChange 0 = .ok (.aload_n 0, 1) := by decide +kernel
theorem dX2_fameChange_1 : decode cX2_fameChange 1 = .ok (.iload_n 1, 1) := by decide +kernel
theorem dX2_fameChange_2 : decode cX2_fameChange 2 = .ok (.iload_n 2, 1) := by decide +kernel
theorem dX2_fameChange_3 : decode cX2_fameChange 3 = .ok (.invokespecial 7, 3) := by decide +kernel
theorem dX2_fameChange_6 : decode cX2_fameChange 6 = .ok (.iconst 2, 1) := by decide +kernel
theorem dX2_fameChange_7 : decode cX2_fameChange 7 = .ok (.isub, 1) := by decide +kernel
theorem dX2_fameChange_8 : decode cX2_fameChange 8 = .ok (.ireturn, 1) := by decide +kernel
theorem dX3_init_0 : decode cX3_init 0 = .ok (.aload_n 0, 1) := by decide +kernel
theorem dX3_init_1 : decode cX3_init 1 = .ok (.invokespecial 1, 3) := by decide +kernel
theorem dX3_init_4 : decode cX3_init 4 = .ok (.return_, 1) := by decide +kernel
theorem dX3_fameChange_0 : decode cX3_fameChange 0 = .ok (.iconst 0, 1) := by decide +kernel
theorem dX3_fameChange_1 : decode cX3_fameChange 1 = .ok (.ireturn, 1) := by decide +kernel
theorem dX4_init_0 : decode cX4_init 0 = .ok (.aload_n 0, 1) := by decide +kernel
theorem dX4_init_1 : decode cX4_init 1 = .ok (.invokespecial 1, 3) := by decide +kernel
theorem dX4_init_4 : decode cX4_init 4 = .ok (.return_, 1) := by decide +kernel
theorem dX4_fameChange_0 : decode cX4_fameChange 0 = .ok (.bipush (-2), 2) := by decide +kernel
theorem dX4_fameChange_2 : decode cX4_fameChange 2 = .ok (.ireturn, 1) := by decide +kernel
theorem dX4_scarsMore_0 : decode cX4_scarsMore 0 = .ok (.iconst 1, 1) := by decide +kernel
theorem dX4_scarsMore_1 : decode cX4_scarsMore 1 = .ok (.ireturn, 1) := by decide +kernel
theorem dX5_init_0 : decode cX5_init 0 = .ok (.aload_n 0, 1) := by decide +kernel
theorem dX5_init_1 : decode cX5_init 1 = .ok (.invokespecial 1, 3) := by decide +kernel
theorem dX5_init_4 : decode cX5_init 4 = .ok (.return_, 1) := by decide +kernel
theorem dX5_fameChange_0 : decode cX5_fameChange 0 = .ok (.iconst 1, 1) := by decide +kernel
theorem dX5_fameChange_1 : decode cX5_fameChange 1 = .ok (.ireturn, 1) := by decide +kernel
theorem dX5_scarsMore_0 : decode cX5_scarsMore 0 = .ok (.iconst 0, 1) := by decide +kernel
theorem dX5_scarsMore_1 : decode cX5_scarsMore 1 = .ok (.ireturn, 1) := by decide +kernel
theorem dX6_init_0 : decode cX6_init 0 = .ok (.aload_n 0, 1) := by decide +kernel
theorem dX6_init_1 : decode cX6_init 1 = .ok (.invokespecial 3, 3) := by decide +kernel
theorem dX6_init_4 : decode cX6_init 4 = .ok (.aload_n 0, 1) := by decide +kernel
theorem dX6_init_5 : decode cX6_init 5 = .ok (.bipush 96, 2) := by decide +kernel
theorem dX6_init_7 : decode cX6_init 7 = .ok (.newarray .int, 2) := by decide +kernel
theorem dX6_init_9 : decode cX6_init 9 = .ok (.putfield 9, 3) := by decide +kernel
theorem dX6_init_12 : decode cX6_init 12 = .ok (.aload_n 0, 1) := by decide +kernel
theorem dX6_init_13 : decode cX6_init 13 = .ok (.iconst 0, 1) := by decide +kernel
theorem dX6_init_14 : decode cX6_init 14 = .ok (.putfield 15, 3) := by decide +kernel
theorem dX6_init_17 : decode cX6_init 17 = .ok (.return_, 1) := by decide +kernel
theorem dX6_takes_0 : decode cX6_takes 0 = .ok (.aload_n 0, 1) := by decide +kernel
theorem dX6_takes_1 : decode cX6_takes 1 = .ok (.getfield 15, 3) := by decide +kernel
theorem dX6_takes_4 : decode cX6_takes 4 = .ok (.bipush 96, 2) := by decide +kernel
theorem dX6_takes_6 : decode cX6_takes 6 = .ok (.if_icmp .lt 5, 3) := by decide +kernel
theorem dX6_takes_9 : decode cX6_takes 9 = .ok (.iconst 0, 1) := by decide +kernel
theorem dX6_takes_10 : decode cX6_takes 10 = .ok (.ireturn, 1) := by decide +kernel
theorem dX6_takes_11 : decode cX6_takes 11 = .ok (.aload_n 0, 1) := by decide +kernel
theorem dX6_takes_12 : decode cX6_takes 12 = .ok (.getfield 9, 3) := by decide +kernel
theorem dX6_takes_15 : decode cX6_takes 15 = .ok (.aload_n 0, 1) := by decide +kernel
theorem dX6_takes_16 : decode cX6_takes 16 = .ok (.getfield 15, 3) := by decide +kernel
theorem dX6_takes_19 : decode cX6_takes 19 = .ok (.iload_n 1, 1) := by decide +kernel
theorem dX6_takes_20 : decode cX6_takes 20 = .ok (.iastore, 1) := by decide +kernel
theorem dX6_takes_21 : decode cX6_takes 21 = .ok (.aload_n 0, 1) := by decide +kernel
theorem dX6_takes_22 : decode cX6_takes 22 = .ok (.dup, 1) := by decide +kernel
theorem dX6_takes_23 : decode cX6_takes 23 = .ok (.getfield 15, 3) := by decide +kernel
theorem dX6_takes_26 : decode cX6_takes 26 = .ok (.iconst 1, 1) := by decide +kernel
theorem dX6_takes_27 : decode cX6_takes 27 = .ok (.iadd, 1) := by decide +kernel
theorem dX6_takes_28 : decode cX6_takes 28 = .ok (.putfield 15, 3) := by decide +kernel
theorem dX6_takes_31 : decode cX6_takes 31 = .ok (.iconst 1, 1) := by decide +kernel
theorem dX6_takes_32 : decode cX6_takes 32 = .ok (.ireturn, 1) := by decide +kernel
theorem dX6_carryOut_0 : decode cX6_carryOut 0 = .ok (.aload_n 0, 1) := by decide +kernel
theorem dX6_carryOut_1 : decode cX6_carryOut 1 = .ok (.invokevirtual 19, 3) := by decide +kernel
theorem dX6_carryOut_4 : decode cX6_carryOut 4 = .ok (.istore_n 2, 1) := by decide +kernel
theorem dX6_carryOut_5 : decode cX6_carryOut 5 = .ok (.iload_n 2, 1) := by decide +kernel
theorem dX6_carryOut_6 : decode cX6_carryOut 6 = .ok (.bipush (-9), 2) := by decide +kernel
theorem dX6_carryOut_8 : decode cX6_carryOut 8 = .ok (.if_icmp .eq 9, 3) := by decide +kernel
theorem dX6_carryOut_11 : decode cX6_carryOut 11 = .ok (.sipush (-1000), 3) := by decide +kernel
theorem dX6_carryOut_14 : decode cX6_carryOut 14 = .ok (.iload_n 2, 1) := by decide +kernel
theorem dX6_carryOut_15 : decode cX6_carryOut 15 = .ok (.isub, 1) := by decide +kernel
theorem dX6_carryOut_16 : decode cX6_carryOut 16 = .ok (.ireturn, 1) := by decide +kernel
theorem dX6_carryOut_17 : decode cX6_carryOut 17 = .ok (.iconst 0, 1) := by decide +kernel
theorem dX6_carryOut_18 : decode cX6_carryOut 18 = .ok (.istore_n 3, 1) := by decide +kernel
theorem dX6_carryOut_19 : decode cX6_carryOut 19 = .ok (.iconst 0, 1) := by decide +kernel
theorem dX6_carryOut_20 : decode cX6_carryOut 20 = .ok (.istore 4, 2) := by decide +kernel
theorem dX6_carryOut_22 : decode cX6_carryOut 22 = .ok (.iload 4, 2) := by decide +kernel
theorem dX6_carryOut_24 : decode cX6_carryOut 24 = .ok (.aload_n 0, 1) := by decide +kernel
theorem dX6_carryOut_25 : decode cX6_carryOut 25 = .ok (.getfield 15, 3) := by decide +kernel
theorem dX6_carryOut_28 : decode cX6_carryOut 28 = .ok (.if_icmp .ge 46, 3) := by decide +kernel
theorem dX6_carryOut_31 : decode cX6_carryOut 31 = .ok (.aload_n 0, 1) := by decide +kernel
theorem dX6_carryOut_32 : decode cX6_carryOut 32 = .ok (.aload_n 1, 1) := by decide +kernel
theorem dX6_carryOut_33 : decode cX6_carryOut 33 = .ok (.iload 4, 2) := by decide +kernel
theorem dX6_carryOut_35 : decode cX6_carryOut 35 = .ok (.invokevirtual 23, 3) := by decide +kernel
theorem dX6_carryOut_38 : decode cX6_carryOut 38 = .ok (.ifCond .ne 10, 3) := by decide +kernel
theorem dX6_carryOut_41 : decode cX6_carryOut 41 = .ok (.sipush (-2000), 3) := by decide +kernel
theorem dX6_carryOut_44 : decode cX6_carryOut 44 = .ok (.iload 4, 2) := by decide +kernel
theorem dX6_carryOut_46 : decode cX6_carryOut 46 = .ok (.isub, 1) := by decide +kernel
theorem dX6_carryOut_47 : decode cX6_carryOut 47 = .ok (.ireturn, 1) := by decide +kernel
theorem dX6_carryOut_48 : decode cX6_carryOut 48 = .ok (.iload 4, 2) := by decide +kernel
theorem dX6_carryOut_50 : decode cX6_carryOut 50 = .ok (.iconst 1, 1) := by decide +kernel
theorem dX6_carryOut_51 : decode cX6_carryOut 51 = .ok (.aload_n 0, 1) := by decide +kernel
theorem dX6_carryOut_52 : decode cX6_carryOut 52 = .ok (.getfield 9, 3) := by decide +kernel
theorem dX6_carryOut_55 : decode cX6_carryOut 55 = .ok (.iload 4, 2) := by decide +kernel
theorem dX6_carryOut_57 : decode cX6_carryOut 57 = .ok (.iaload, 1) := by decide +kernel
theorem dX6_carryOut_58 : decode cX6_carryOut 58 = .ok (.invokestatic 27, 3) := by decide +kernel
theorem dX6_carryOut_61 : decode cX6_carryOut 61 = .ok (.invokevirtual 31, 3) := by decide +kernel
theorem dX6_carryOut_64 : decode cX6_carryOut 64 = .ok (.iadd, 1) := by decide +kernel
theorem dX6_carryOut_65 : decode cX6_carryOut 65 = .ok (.iadd, 1) := by decide +kernel
theorem dX6_carryOut_66 : decode cX6_carryOut 66 = .ok (.istore 4, 2) := by decide +kernel
theorem dX6_carryOut_68 : decode cX6_carryOut 68 = .ok (.iinc 3 1, 3) := by decide +kernel
theorem dX6_carryOut_71 : decode cX6_carryOut 71 = .ok (.goto (-49), 3) := by decide +kernel
theorem dX6_carryOut_74 : decode cX6_carryOut 74 = .ok (.iload_n 3, 1) := by decide +kernel
theorem dX6_carryOut_75 : decode cX6_carryOut 75 = .ok (.ireturn, 1) := by decide +kernel
theorem dX6_brokenPlace_0 : decode cX6_brokenPlace 0 = .ok (.ldc 36, 2) := by decide +kernel
theorem dX6_brokenPlace_2 : decode cX6_brokenPlace 2 = .ok (.astore_n 1, 1) := by decide +kernel
theorem dX6_brokenPlace_3 : decode cX6_brokenPlace 3 = .ok (.iconst 0, 1) := by decide +kernel
theorem dX6_brokenPlace_4 : decode cX6_brokenPlace 4 = .ok (.istore_n 2, 1) := by decide +kernel
theorem dX6_brokenPlace_5 : decode cX6_brokenPlace 5 = .ok (.iconst 0, 1) := by decide +kernel
theorem dX6_brokenPlace_6 : decode cX6_brokenPlace 6 = .ok (.istore_n 3, 1) := by decide +kernel
theorem dX6_brokenPlace_7 : decode cX6_brokenPlace 7 = .ok (.iload_n 3, 1) := by decide +kernel
theorem dX6_brokenPlace_8 : decode cX6_brokenPlace 8 = .ok (.aload_n 0, 1) := by decide +kernel
theorem dX6_brokenPlace_9 : decode cX6_brokenPlace 9 = .ok (.getfield 15, 3) := by decide +kernel
theorem dX6_brokenPlace_12 : decode cX6_brokenPlace 12 = .ok (.if_icmp .ge 63, 3) := by decide +kernel
theorem dX6_brokenPlace_15 : decode cX6_brokenPlace 15 = .ok (.iload_n 2, 1) := by decide +kernel
theorem dX6_brokenPlace_16 : decode cX6_brokenPlace 16 = .ok (.aload_n 1, 1) := by decide +kernel
theorem dX6_brokenPlace_17 : decode cX6_brokenPlace 17 = .ok (.invokevirtual 31, 3) := by decide +kernel
theorem dX6_brokenPlace_20 : decode cX6_brokenPlace 20 = .ok (.if_icmp .ge 28, 3) := by decide +kernel
theorem dX6_brokenPlace_23 : decode cX6_brokenPlace 23 = .ok (.aload_n 0, 1) := by decide +kernel
theorem dX6_brokenPlace_24 : decode cX6_brokenPlace 24 = .ok (.getfield 9, 3) := by decide +kernel
theorem dX6_brokenPlace_27 : decode cX6_brokenPlace 27 = .ok (.iload_n 3, 1) := by decide +kernel
theorem dX6_brokenPlace_28 : decode cX6_brokenPlace 28 = .ok (.iaload, 1) := by decide +kernel
theorem dX6_brokenPlace_29 : decode cX6_brokenPlace 29 = .ok (.aload_n 1, 1) := by decide +kernel
theorem dX6_brokenPlace_30 : decode cX6_brokenPlace 30 = .ok (.iload_n 2, 1) := by decide +kernel
theorem dX6_brokenPlace_31 : decode cX6_brokenPlace 31 = .ok (.invokevirtual 38, 3) := by decide +kernel
theorem dX6_brokenPlace_34 : decode cX6_brokenPlace 34 = .ok (.invokestatic 42, 3) := by decide +kernel
theorem dX6_brokenPlace_37 : decode cX6_brokenPlace 37 = .ok (.ifCond .ne 5, 3) := by decide +kernel
theorem dX6_brokenPlace_40 : decode cX6_brokenPlace 40 = .ok (.iload_n 3, 1) := by decide +kernel
theorem dX6_brokenPlace_41 : decode cX6_brokenPlace 41 = .ok (.ireturn, 1) := by decide +kernel
theorem dX6_brokenPlace_42 : decode cX6_brokenPlace 42 = .ok (.iinc 2 1, 3) := by decide +kernel
theorem dX6_brokenPlace_45 : decode cX6_brokenPlace 45 = .ok (.goto 24, 3) := by decide +kernel
theorem dX6_brokenPlace_48 : decode cX6_brokenPlace 48 = .ok (.aload_n 0, 1) := by decide +kernel
theorem dX6_brokenPlace_49 : decode cX6_brokenPlace 49 = .ok (.getfield 9, 3) := by decide +kernel
theorem dX6_brokenPlace_52 : decode cX6_brokenPlace 52 = .ok (.iload_n 3, 1) := by decide +kernel
theorem dX6_brokenPlace_53 : decode cX6_brokenPlace 53 = .ok (.iaload, 1) := by decide +kernel
theorem dX6_brokenPlace_54 : decode cX6_brokenPlace 54 = .ok (.invokestatic 27, 3) := by decide +kernel
theorem dX6_brokenPlace_57 : decode cX6_brokenPlace 57 = .ok (.astore_n 1, 1) := by decide +kernel
theorem dX6_brokenPlace_58 : decode cX6_brokenPlace 58 = .ok (.iconst 0, 1) := by decide +kernel
theorem dX6_brokenPlace_59 : decode cX6_brokenPlace 59 = .ok (.istore_n 2, 1) := by decide +kernel
theorem dX6_brokenPlace_60 : decode cX6_brokenPlace 60 = .ok (.aload_n 1, 1) := by decide +kernel
theorem dX6_brokenPlace_61 : decode cX6_brokenPlace 61 = .ok (.invokevirtual 46, 3) := by decide +kernel
theorem dX6_brokenPlace_64 : decode cX6_brokenPlace 64 = .ok (.ifCond .eq 5, 3) := by decide +kernel
theorem dX6_brokenPlace_67 : decode cX6_brokenPlace 67 = .ok (.iload_n 3, 1) := by decide +kernel
theorem dX6_brokenPlace_68 : decode cX6_brokenPlace 68 = .ok (.ireturn, 1) := by decide +kernel
theorem dX6_brokenPlace_69 : decode cX6_brokenPlace 69 = .ok (.iinc 3 1, 3) := by decide +kernel
theorem dX6_brokenPlace_72 : decode cX6_brokenPlace 72 = .ok (.goto (-65), 3) := by decide +kernel
theorem dX6_brokenPlace_75 : decode cX6_brokenPlace 75 = .ok (.aload_n 0, 1) := by decide +kernel
theorem dX6_brokenPlace_76 : decode cX6_brokenPlace 76 = .ok (.getfield 15, 3) := by decide +kernel
theorem dX6_brokenPlace_79 : decode cX6_brokenPlace 79 = .ok (.ifCond .eq 11, 3) := by decide +kernel
theorem dX6_brokenPlace_82 : decode cX6_brokenPlace 82 = .ok (.iload_n 2, 1) := by decide +kernel
theorem dX6_brokenPlace_83 : decode cX6_brokenPlace 83 = .ok (.aload_n 1, 1) := by decide +kernel
theorem dX6_brokenPlace_84 : decode cX6_brokenPlace 84 = .ok (.invokevirtual 31, 3) := by decide +kernel
theorem dX6_brokenPlace_87 : decode cX6_brokenPlace 87 = .ok (.if_icmp .ge 10, 3) := by decide +kernel
theorem dX6_brokenPlace_90 : decode cX6_brokenPlace 90 = .ok (.aload_n 0, 1) := by decide +kernel
theorem dX6_brokenPlace_91 : decode cX6_brokenPlace 91 = .ok (.getfield 15, 3) := by decide +kernel
theorem dX6_brokenPlace_94 : decode cX6_brokenPlace 94 = .ok (.goto 5, 3) := by decide +kernel
theorem dX6_brokenPlace_97 : decode cX6_brokenPlace 97 = .ok (.bipush (-9), 2) := by decide +kernel
theorem dX6_brokenPlace_99 : decode cX6_brokenPlace 99 = .ok (.ireturn, 1) := by decide +kernel
theorem dX6_shapeOf_0 : decode cX6_shapeOf 0 = .ok (.iload_n 0, 1) := by decide +kernel
theorem dX6_shapeOf_1 : decode cX6_shapeOf 1 = .ok (.tableswitch 87 98 112 #[78, 87, 87, 87, 84, 87, 87, 87, 87, 81, 81, 81, 87, 87, 75], 75) := by decide +kernel
theorem dX6_shapeOf_76 : decode cX6_shapeOf 76 = .ok (.ldc 50, 2) := by decide +kernel
theorem dX6_shapeOf_78 : decode cX6_shapeOf 78 = .ok (.areturn, 1) := by decide +kernel
theorem dX6_shapeOf_79 : decode cX6_shapeOf 79 = .ok (.ldc 52, 2) := by decide +kernel
theorem dX6_shapeOf_81 : decode cX6_shapeOf 81 = .ok (.areturn, 1) := by decide +kernel
theorem dX6_shapeOf_82 : decode cX6_shapeOf 82 = .ok (.ldc 54, 2) := by decide +kernel
theorem dX6_shapeOf_84 : decode cX6_shapeOf 84 = .ok (.areturn, 1) := by decide +kernel
theorem dX6_shapeOf_85 : decode cX6_shapeOf 85 = .ok (.ldc 56, 2) := by decide +kernel
theorem dX6_shapeOf_87 : decode cX6_shapeOf 87 = .ok (.areturn, 1) := by decide +kernel
theorem dX6_shapeOf_88 : decode cX6_shapeOf 88 = .ok (.ldc 36, 2) := by decide +kernel
theorem dX6_shapeOf_90 : decode cX6_shapeOf 90 = .ok (.areturn, 1) := by decide +kernel
theorem dX6_fits_0 : decode cX6_fits 0 = .ok (.iload_n 1, 1) := by decide +kernel
theorem dX6_fits_1 : decode cX6_fits 1 = .ok (.lookupswitch 58 #[(48, 40), (107, 27)], 27) := by decide +kernel
theorem dX6_fits_28 : decode cX6_fits 28 = .ok (.iload_n 0, 1) := by decide +kernel
theorem dX6_fits_29 : decode cX6_fits 29 = .ok (.invokestatic 58, 3) := by decide +kernel
theorem dX6_fits_32 : decode cX6_fits 32 = .ok (.ifCond .lt 7, 3) := by decide +kernel
theorem dX6_fits_35 : decode cX6_fits 35 = .ok (.iconst 1, 1) := by decide +kernel
theorem dX6_fits_36 : decode cX6_fits 36 = .ok (.goto 4, 3) := by decide +kernel
theorem dX6_fits_39 : decode cX6_fits 39 = .ok (.iconst 0, 1) := by decide +kernel
theorem dX6_fits_40 : decode cX6_fits 40 = .ok (.ireturn, 1) := by decide +kernel
theorem dX6_fits_41 : decode cX6_fits 41 = .ok (.iload_n 0, 1) := by decide +kernel
theorem dX6_fits_42 : decode cX6_fits 42 = .ok (.bipush 48, 2) := by decide +kernel
theorem dX6_fits_44 : decode cX6_fits 44 = .ok (.if_icmp .lt 13, 3) := by decide +kernel
theorem dX6_fits_47 : decode cX6_fits 47 = .ok (.iload_n 0, 1) := by decide +kernel
theorem dX6_fits_48 : decode cX6_fits 48 = .ok (.bipush 57, 2) := by decide +kernel
theorem dX6_fits_50 : decode cX6_fits 50 = .ok (.if_icmp .gt 7, 3) := by decide +kernel
theorem dX6_fits_53 : decode cX6_fits 53 = .ok (.iconst 1, 1) := by decide +kernel
theorem dX6_fits_54 : decode cX6_fits 54 = .ok (.goto 4, 3) := by decide +kernel
theorem dX6_fits_57 : decode cX6_fits 57 = .ok (.iconst 0, 1) := by decide +kernel
theorem dX6_fits_58 : decode cX6_fits 58 = .ok (.ireturn, 1) := by decide +kernel
theorem dX6_fits_59 : decode cX6_fits 59 = .ok (.iload_n 0, 1) := by decide +kernel
theorem dX6_fits_60 : decode cX6_fits 60 = .ok (.iload_n 1, 1) := by decide +kernel
theorem dX6_fits_61 : decode cX6_fits 61 = .ok (.if_icmp .ne 7, 3) := by decide +kernel
theorem dX6_fits_64 : decode cX6_fits 64 = .ok (.iconst 1, 1) := by decide +kernel
theorem dX6_fits_65 : decode cX6_fits 65 = .ok (.goto 4, 3) := by decide +kernel
theorem dX6_fits_68 : decode cX6_fits 68 = .ok (.iconst 0, 1) := by decide +kernel
theorem dX6_fits_69 : decode cX6_fits 69 = .ok (.ireturn, 1) := by decide +kernel
theorem dX6_kindOf_0 : decode cX6_kindOf 0 = .ok (.ldc 62, 2) := by decide +kernel
theorem dX6_kindOf_2 : decode cX6_kindOf 2 = .ok (.iload_n 0, 1) := by decide +kernel
theorem dX6_kindOf_3 : decode cX6_kindOf 3 = .ok (.i2c, 1) := by decide +kernel
theorem dX6_kindOf_4 : decode cX6_kindOf 4 = .ok (.invokevirtual 64, 3) := by decide +kernel
theorem dX6_kindOf_7 : decode cX6_kindOf 7 = .ok (.ireturn, 1) := by decide +kernel
theorem dX6_comesTo_0 : decode cX6_comesTo 0 = .ok (.aload_n 0, 1) := by decide +kernel
theorem dX6_comesTo_1 : decode cX6_comesTo 1 = .ok (.getfield 9, 3) := by decide +kernel
theorem dX6_comesTo_4 : decode cX6_comesTo 4 = .ok (.iload_n 2, 1) := by decide +kernel
theorem dX6_comesTo_5 : decode cX6_comesTo 5 = .ok (.iaload, 1) := by decide +kernel
theorem dX6_comesTo_6 : decode cX6_comesTo 6 = .ok (.tableswitch 165 98 112 #[115, 165, 165, 165, 146, 165, 165, 165, 165, 127, 96, 165, 165, 165, 74], 74) := by decide +kernel
theorem dX6_comesTo_80 : decode cX6_comesTo 80 = .ok (.aload_n 1, 1) := by decide +kernel
theorem dX6_comesTo_81 : decode cX6_comesTo 81 = .ok (.aload_n 0, 1) := by decide +kernel
theorem dX6_comesTo_82 : decode cX6_comesTo 82 = .ok (.iload_n 2, 1) := by decide +kernel
theorem dX6_comesTo_83 : decode cX6_comesTo 83 = .ok (.iconst 1, 1) := by decide +kernel
theorem dX6_comesTo_84 : decode cX6_comesTo 84 = .ok (.iadd, 1) := by decide +kernel
theorem dX6_comesTo_85 : decode cX6_comesTo 85 = .ok (.invokevirtual 67, 3) := by decide +kernel
theorem dX6_comesTo_88 : decode cX6_comesTo 88 = .ok (.invokestatic 58, 3) := by decide +kernel
theorem dX6_comesTo_91 : decode cX6_comesTo 91 = .ok (.aload_n 0, 1) := by decide +kernel
theorem dX6_comesTo_92 : decode cX6_comesTo 92 = .ok (.iload_n 2, 1) := by decide +kernel
theorem dX6_comesTo_93 : decode cX6_comesTo 93 = .ok (.iconst 2, 1) := by decide +kernel
theorem dX6_comesTo_94 : decode cX6_comesTo 94 = .ok (.iadd, 1) := by decide +kernel
theorem dX6_comesTo_95 : decode cX6_comesTo 95 = .ok (.invokevirtual 70, 3) := by decide +kernel
theorem dX6_comesTo_98 : decode cX6_comesTo 98 = .ok (.invokevirtual 73, 3) := by decide +kernel
theorem dX6_comesTo_101 : decode cX6_comesTo 101 = .ok (.ireturn, 1) := by decide +kernel
theorem dX6_comesTo_102 : decode cX6_comesTo 102 = .ok (.aload_n 1, 1) := by decide +kernel
theorem dX6_comesTo_103 : decode cX6_comesTo 103 = .ok (.aload_n 0, 1) := by decide +kernel
theorem dX6_comesTo_104 : decode cX6_comesTo 104 = .ok (.iload_n 2, 1) := by decide +kernel
theorem dX6_comesTo_105 : decode cX6_comesTo 105 = .ok (.iconst 1, 1) := by decide +kernel
theorem dX6_comesTo_106 : decode cX6_comesTo 106 = .ok (.iadd, 1) := by decide +kernel
theorem dX6_comesTo_107 : decode cX6_comesTo 107 = .ok (.invokevirtual 70, 3) := by decide +kernel
theorem dX6_comesTo_110 : decode cX6_comesTo 110 = .ok (.aload_n 0, 1) := by decide +kernel
theorem dX6_comesTo_111 : decode cX6_comesTo 111 = .ok (.iload_n 2, 1) := by decide +kernel
theorem dX6_comesTo_112 : decode cX6_comesTo 112 = .ok (.iconst 2, 1) := by decide +kernel
theorem dX6_comesTo_113 : decode cX6_comesTo 113 = .ok (.iadd, 1) := by decide +kernel
theorem dX6_comesTo_114 : decode cX6_comesTo 114 = .ok (.invokevirtual 70, 3) := by decide +kernel
theorem dX6_comesTo_117 : decode cX6_comesTo 117 = .ok (.invokestatic 79, 3) := by decide +kernel
theorem dX6_comesTo_120 : decode cX6_comesTo 120 = .ok (.ireturn, 1) := by decide +kernel
theorem dX6_comesTo_121 : decode cX6_comesTo 121 = .ok (.aload_n 1, 1) := by decide +kernel
theorem dX6_comesTo_122 : decode cX6_comesTo 122 = .ok (.aload_n 0, 1) := by decide +kernel
theorem dX6_comesTo_123 : decode cX6_comesTo 123 = .ok (.iload_n 2, 1) := by decide +kernel
theorem dX6_comesTo_124 : decode cX6_comesTo 124 = .ok (.iconst 1, 1) := by decide +kernel
theorem dX6_comesTo_125 : decode cX6_comesTo 125 = .ok (.iadd, 1) := by decide +kernel
theorem dX6_comesTo_126 : decode cX6_comesTo 126 = .ok (.invokevirtual 70, 3) := by decide +kernel
theorem dX6_comesTo_129 : decode cX6_comesTo 129 = .ok (.invokestatic 83, 3) := by decide +kernel
theorem dX6_comesTo_132 : decode cX6_comesTo 132 = .ok (.ireturn, 1) := by decide +kernel
theorem dX6_comesTo_133 : decode cX6_comesTo 133 = .ok (.aload_n 1, 1) := by decide +kernel
theorem dX6_comesTo_134 : decode cX6_comesTo 134 = .ok (.aload_n 0, 1) := by decide +kernel
theorem dX6_comesTo_135 : decode cX6_comesTo 135 = .ok (.iload_n 2, 1) := by decide +kernel
theorem dX6_comesTo_136 : decode cX6_comesTo 136 = .ok (.iconst 1, 1) := by decide +kernel
theorem dX6_comesTo_137 : decode cX6_comesTo 137 = .ok (.iadd, 1) := by decide +kernel
theorem dX6_comesTo_138 : decode cX6_comesTo 138 = .ok (.invokevirtual 70, 3) := by decide +kernel
theorem dX6_comesTo_141 : decode cX6_comesTo 141 = .ok (.aload_n 0, 1) := by decide +kernel
theorem dX6_comesTo_142 : decode cX6_comesTo 142 = .ok (.iload_n 2, 1) := by decide +kernel
theorem dX6_comesTo_143 : decode cX6_comesTo 143 = .ok (.iconst 2, 1) := by decide +kernel
theorem dX6_comesTo_144 : decode cX6_comesTo 144 = .ok (.iadd, 1) := by decide +kernel
theorem dX6_comesTo_145 : decode cX6_comesTo 145 = .ok (.invokevirtual 70, 3) := by decide +kernel
theorem dX6_comesTo_148 : decode cX6_comesTo 148 = .ok (.invokestatic 86, 3) := by decide +kernel
theorem dX6_comesTo_151 : decode cX6_comesTo 151 = .ok (.ireturn, 1) := by decide +kernel
theorem dX6_comesTo_152 : decode cX6_comesTo 152 = .ok (.aload_n 1, 1) := by decide +kernel
theorem dX6_comesTo_153 : decode cX6_comesTo 153 = .ok (.aload_n 0, 1) := by decide +kernel
theorem dX6_comesTo_154 : decode cX6_comesTo 154 = .ok (.iload_n 2, 1) := by decide +kernel
theorem dX6_comesTo_155 : decode cX6_comesTo 155 = .ok (.iconst 1, 1) := by decide +kernel
theorem dX6_comesTo_156 : decode cX6_comesTo 156 = .ok (.iadd, 1) := by decide +kernel
theorem dX6_comesTo_157 : decode cX6_comesTo 157 = .ok (.invokevirtual 70, 3) := by decide +kernel
theorem dX6_comesTo_160 : decode cX6_comesTo 160 = .ok (.aload_n 0, 1) := by decide +kernel
theorem dX6_comesTo_161 : decode cX6_comesTo 161 = .ok (.iload_n 2, 1) := by decide +kernel
theorem dX6_comesTo_162 : decode cX6_comesTo 162 = .ok (.iconst 2, 1) := by decide +kernel
theorem dX6_comesTo_163 : decode cX6_comesTo 163 = .ok (.iadd, 1) := by decide +kernel
theorem dX6_comesTo_164 : decode cX6_comesTo 164 = .ok (.invokevirtual 89, 3) := by decide +kernel
theorem dX6_comesTo_167 : decode cX6_comesTo 167 = .ok (.invokestatic 92, 3) := by decide +kernel
theorem dX6_comesTo_170 : decode cX6_comesTo 170 = .ok (.ireturn, 1) := by decide +kernel
theorem dX6_comesTo_171 : decode cX6_comesTo 171 = .ok (.aload_n 1, 1) := by decide +kernel
theorem dX6_comesTo_172 : decode cX6_comesTo 172 = .ok (.aload_n 0, 1) := by decide +kernel
theorem dX6_comesTo_173 : decode cX6_comesTo 173 = .ok (.iload_n 2, 1) := by decide +kernel
theorem dX6_comesTo_174 : decode cX6_comesTo 174 = .ok (.iconst 1, 1) := by decide +kernel
theorem dX6_comesTo_175 : decode cX6_comesTo 175 = .ok (.iadd, 1) := by decide +kernel
theorem dX6_comesTo_176 : decode cX6_comesTo 176 = .ok (.invokevirtual 89, 3) := by decide +kernel
theorem dX6_comesTo_179 : decode cX6_comesTo 179 = .ok (.invokestatic 95, 3) := by decide +kernel
theorem dX6_comesTo_182 : decode cX6_comesTo 182 = .ok (.ireturn, 1) := by decide +kernel
theorem dX6_signAt_0 : decode cX6_signAt 0 = .ok (.iload_n 1, 1) := by decide +kernel
theorem dX6_signAt_1 : decode cX6_signAt 1 = .ok (.aload_n 0, 1) := by decide +kernel
theorem dX6_signAt_2 : decode cX6_signAt 2 = .ok (.getfield 15, 3) := by decide +kernel
theorem dX6_signAt_5 : decode cX6_signAt 5 = .ok (.if_icmp .ge 12, 3) := by decide +kernel
theorem dX6_signAt_8 : decode cX6_signAt 8 = .ok (.aload_n 0, 1) := by decide +kernel
theorem dX6_signAt_9 : decode cX6_signAt 9 = .ok (.getfield 9, 3) := by decide +kernel
theorem dX6_signAt_12 : decode cX6_signAt 12 = .ok (.iload_n 1, 1) := by decide +kernel
theorem dX6_signAt_13 : decode cX6_signAt 13 = .ok (.iaload, 1) := by decide +kernel
theorem dX6_signAt_14 : decode cX6_signAt 14 = .ok (.goto 4, 3) := by decide +kernel
theorem dX6_signAt_17 : decode cX6_signAt 17 = .ok (.iconst 0, 1) := by decide +kernel
theorem dX6_signAt_18 : decode cX6_signAt 18 = .ok (.ireturn, 1) := by decide +kernel
theorem dX6_digitAt_0 : decode cX6_digitAt 0 = .ok (.aload_n 0, 1) := by decide +kernel
theorem dX6_digitAt_1 : decode cX6_digitAt 1 = .ok (.iload_n 1, 1) := by decide +kernel
theorem dX6_digitAt_2 : decode cX6_digitAt 2 = .ok (.invokevirtual 67, 3) := by decide +kernel
theorem dX6_digitAt_5 : decode cX6_digitAt 5 = .ok (.bipush 48, 2) := by decide +kernel
theorem dX6_digitAt_7 : decode cX6_digitAt 7 = .ok (.isub, 1) := by decide +kernel
theorem dX6_digitAt_8 : decode cX6_digitAt 8 = .ok (.ireturn, 1) := by decide +kernel
theorem dX6_twoDigitsAt_0 : decode cX6_twoDigitsAt 0 = .ok (.bipush 10, 2) := by decide +kernel
theorem dX6_twoDigitsAt_2 : decode cX6_twoDigitsAt 2 = .ok (.aload_n 0, 1) := by decide +kernel
theorem dX6_twoDigitsAt_3 : decode cX6_twoDigitsAt 3 = .ok (.iload_n 1, 1) := by decide +kernel
theorem dX6_twoDigitsAt_4 : decode cX6_twoDigitsAt 4 = .ok (.invokevirtual 70, 3) := by decide +kernel
theorem dX6_twoDigitsAt_7 : decode cX6_twoDigitsAt 7 = .ok (.imul, 1) := by decide +kernel
theorem dX6_twoDigitsAt_8 : decode cX6_twoDigitsAt 8 = .ok (.aload_n 0, 1) := by decide +kernel
theorem dX6_twoDigitsAt_9 : decode cX6_twoDigitsAt 9 = .ok (.iload_n 1, 1) := by decide +kernel
theorem dX6_twoDigitsAt_10 : decode cX6_twoDigitsAt 10 = .ok (.iconst 1, 1) := by decide +kernel
theorem dX6_twoDigitsAt_11 : decode cX6_twoDigitsAt 11 = .ok (.iadd, 1) := by decide +kernel
theorem dX6_twoDigitsAt_12 : decode cX6_twoDigitsAt 12 = .ok (.invokevirtual 70, 3) := by decide +kernel
theorem dX6_twoDigitsAt_15 : decode cX6_twoDigitsAt 15 = .ok (.iadd, 1) := by decide +kernel
theorem dX6_twoDigitsAt_16 : decode cX6_twoDigitsAt 16 = .ok (.ireturn, 1) := by decide +kernel
theorem dX6_lendingComes_0 : decode cX6_lendingComes 0 = .ok (.aload_n 0, 1) := by decide +kernel
theorem dX6_lendingComes_1 : decode cX6_lendingComes 1 = .ok (.iload_n 1, 1) := by decide +kernel
theorem dX6_lendingComes_2 : decode cX6_lendingComes 2 = .ok (.invokevirtual 98, 3) := by decide +kernel
theorem dX6_lendingComes_5 : decode cX6_lendingComes 5 = .ok (.ifCond .eq 24, 3) := by decide +kernel
theorem dX6_lendingComes_8 : decode cX6_lendingComes 8 = .ok (.aload_n 0, 1) := by decide +kernel
theorem dX6_lendingComes_9 : decode cX6_lendingComes 9 = .ok (.iload_n 2, 1) := by decide +kernel
theorem dX6_lendingComes_10 : decode cX6_lendingComes 10 = .ok (.invokevirtual 98, 3) := by decide +kernel
theorem dX6_lendingComes_13 : decode cX6_lendingComes 13 = .ok (.ifCond .eq 16, 3) := by decide +kernel
theorem dX6_lendingComes_16 : decode cX6_lendingComes 16 = .ok (.aload_n 0, 1) := by decide +kernel
theorem dX6_lendingComes_17 : decode cX6_lendingComes 17 = .ok (.iload_n 1, 1) := by decide +kernel
theorem dX6_lendingComes_18 : decode cX6_lendingComes 18 = .ok (.iload_n 2, 1) := by decide +kernel
theorem dX6_lendingComes_19 : decode cX6_lendingComes 19 = .ok (.invokevirtual 102, 3) := by decide +kernel
theorem dX6_lendingComes_22 : decode cX6_lendingComes 22 = .ok (.ifCond .eq 7, 3) := by decide +kernel
theorem dX6_lendingComes_25 : decode cX6_lendingComes 25 = .ok (.iconst 1, 1) := by decide +kernel
theorem dX6_lendingComes_26 : decode cX6_lendingComes 26 = .ok (.goto 4, 3) := by decide +kernel
theorem dX6_lendingComes_29 : decode cX6_lendingComes 29 = .ok (.iconst 0, 1) := by decide +kernel
theorem dX6_lendingComes_30 : decode cX6_lendingComes 30 = .ok (.istore_n 3, 1) := by decide +kernel
theorem dX6_lendingComes_31 : decode cX6_lendingComes 31 = .ok (.iload_n 3, 1) := by decide +kernel
theorem dX6_lendingComes_32 : decode cX6_lendingComes 32 = .ok (.ifCond .eq 9, 3) := by decide +kernel
theorem dX6_lendingComes_35 : decode cX6_lendingComes 35 = .ok (.aload_n 0, 1) := by decide +kernel
theorem dX6_lendingComes_36 : decode cX6_lendingComes 36 = .ok (.iload_n 1, 1) := by decide +kernel
theorem dX6_lendingComes_37 : decode cX6_lendingComes 37 = .ok (.iload_n 2, 1) := by decide +kernel
theorem dX6_lendingComes_38 : decode cX6_lendingComes 38 = .ok (.invokevirtual 105, 3) := by decide +kernel
theorem dX6_lendingComes_41 : decode cX6_lendingComes 41 = .ok (.iload_n 3, 1) := by decide +kernel
theorem dX6_lendingComes_42 : decode cX6_lendingComes 42 = .ok (.ireturn, 1) := by decide +kernel
theorem dX6_backComes_0 : decode cX6_backComes 0 = .ok (.aload_n 0, 1) := by decide +kernel
theorem dX6_backComes_1 : decode cX6_backComes 1 = .ok (.iload_n 1, 1) := by decide +kernel
theorem dX6_backComes_2 : decode cX6_backComes 2 = .ok (.invokevirtual 98, 3) := by decide +kernel
theorem dX6_backComes_5 : decode cX6_backComes 5 = .ok (.ifCond .eq 15, 3) := by decide +kernel
theorem dX6_backComes_8 : decode cX6_backComes 8 = .ok (.aload_n 0, 1) := by decide +kernel
theorem dX6_backComes_9 : decode cX6_backComes 9 = .ok (.iload_n 1, 1) := by decide +kernel
theorem dX6_backComes_10 : decode cX6_backComes 10 = .ok (.invokevirtual 109, 3) := by decide +kernel
theorem dX6_backComes_13 : decode cX6_backComes 13 = .ok (.ifCond .eq 7, 3) := by decide +kernel
theorem dX6_backComes_16 : decode cX6_backComes 16 = .ok (.iconst 1, 1) := by decide +kernel
theorem dX6_backComes_17 : decode cX6_backComes 17 = .ok (.goto 4, 3) := by decide +kernel
theorem dX6_backComes_20 : decode cX6_backComes 20 = .ok (.iconst 0, 1) := by decide +kernel
theorem dX6_backComes_21 : decode cX6_backComes 21 = .ok (.istore_n 2, 1) := by decide +kernel
theorem dX6_backComes_22 : decode cX6_backComes 22 = .ok (.iload_n 2, 1) := by decide +kernel
theorem dX6_backComes_23 : decode cX6_backComes 23 = .ok (.ifCond .eq 9, 3) := by decide +kernel
theorem dX6_backComes_26 : decode cX6_backComes 26 = .ok (.aload_n 0, 1) := by decide +kernel
theorem dX6_backComes_27 : decode cX6_backComes 27 = .ok (.iload_n 1, 1) := by decide +kernel
theorem dX6_backComes_28 : decode cX6_backComes 28 = .ok (.invokevirtual 112, 3) := by decide +kernel
theorem dX6_backComes_31 : decode cX6_backComes 31 = .ok (.pop, 1) := by decide +kernel
theorem dX6_backComes_32 : decode cX6_backComes 32 = .ok (.iload_n 2, 1) := by decide +kernel
theorem dX6_backComes_33 : decode cX6_backComes 33 = .ok (.ireturn, 1) := by decide +kernel
theorem dX6_knowingComes_0 : decode cX6_knowingComes 0 = .ok (.aload_n 0, 1) := by decide +kernel
theorem dX6_knowingComes_1 : decode cX6_knowingComes 1 = .ok (.iload_n 1, 1) := by decide +kernel
theorem dX6_knowingComes_2 : decode cX6_knowingComes 2 = .ok (.invokevirtual 98, 3) := by decide +kernel
theorem dX6_knowingComes_5 : decode cX6_knowingComes 5 = .ok (.ifCond .eq 15, 3) := by decide +kernel
theorem dX6_knowingComes_8 : decode cX6_knowingComes 8 = .ok (.aload_n 0, 1) := by decide +kernel
theorem dX6_knowingComes_9 : decode cX6_knowingComes 9 = .ok (.iload_n 2, 1) := by decide +kernel
theorem dX6_knowingComes_10 : decode cX6_knowingComes 10 = .ok (.invokevirtual 98, 3) := by decide +kernel
theorem dX6_knowingComes_13 : decode cX6_knowingComes 13 = .ok (.ifCond .eq 7, 3) := by decide +kernel
theorem dX6_knowingComes_16 : decode cX6_knowingComes 16 = .ok (.iconst 1, 1) := by decide +kernel
theorem dX6_knowingComes_17 : decode cX6_knowingComes 17 = .ok (.goto 4, 3) := by decide +kernel
theorem dX6_knowingComes_20 : decode cX6_knowingComes 20 = .ok (.iconst 0, 1) := by decide +kernel
theorem dX6_knowingComes_21 : decode cX6_knowingComes 21 = .ok (.istore_n 3, 1) := by decide +kernel
theorem dX6_knowingComes_22 : decode cX6_knowingComes 22 = .ok (.iload_n 3, 1) := by decide +kernel
theorem dX6_knowingComes_23 : decode cX6_knowingComes 23 = .ok (.ifCond .eq 9, 3) := by decide +kernel
theorem dX6_knowingComes_26 : decode cX6_knowingComes 26 = .ok (.aload_n 0, 1) := by decide +kernel
theorem dX6_knowingComes_27 : decode cX6_knowingComes 27 = .ok (.iload_n 1, 1) := by decide +kernel
theorem dX6_knowingComes_28 : decode cX6_knowingComes 28 = .ok (.iload_n 2, 1) := by decide +kernel
theorem dX6_knowingComes_29 : decode cX6_knowingComes 29 = .ok (.invokevirtual 115, 3) := by decide +kernel
theorem dX6_knowingComes_32 : decode cX6_knowingComes 32 = .ok (.iload_n 3, 1) := by decide +kernel
theorem dX6_knowingComes_33 : decode cX6_knowingComes 33 = .ok (.ireturn, 1) := by decide +kernel
theorem dX6_fameComes_0 : decode cX6_fameComes 0 = .ok (.aload_n 0, 1) := by decide +kernel
theorem dX6_fameComes_1 : decode cX6_fameComes 1 = .ok (.iload_n 1, 1) := by decide +kernel
theorem dX6_fameComes_2 : decode cX6_fameComes 2 = .ok (.invokevirtual 98, 3) := by decide +kernel
theorem dX6_fameComes_5 : decode cX6_fameComes 5 = .ok (.istore_n 3, 1) := by decide +kernel
theorem dX6_fameComes_6 : decode cX6_fameComes 6 = .ok (.iload_n 3, 1) := by decide +kernel
theorem dX6_fameComes_7 : decode cX6_fameComes 7 = .ok (.ifCond .eq 10, 3) := by decide +kernel
theorem dX6_fameComes_10 : decode cX6_fameComes 10 = .ok (.aload_n 0, 1) := by decide +kernel
theorem dX6_fameComes_11 : decode cX6_fameComes 11 = .ok (.getfield 118, 3) := by decide +kernel
theorem dX6_fameComes_14 : decode cX6_fameComes 14 = .ok (.iload_n 1, 1) := by decide +kernel
theorem dX6_fameComes_15 : decode cX6_fameComes 15 = .ok (.iload_n 2, 1) := by decide +kernel
theorem dX6_fameComes_16 : decode cX6_fameComes 16 = .ok (.iastore, 1) := by decide +kernel
theorem dX6_fameComes_17 : decode cX6_fameComes 17 = .ok (.iload_n 3, 1) := by decide +kernel
theorem dX6_fameComes_18 : decode cX6_fameComes 18 = .ok (.ireturn, 1) := by decide +kernel
theorem dX6_monthsCome_0 : decode cX6_monthsCome 0 = .ok (.iload_n 1, 1) := by decide +kernel
theorem dX6_monthsCome_1 : decode cX6_monthsCome 1 = .ok (.iconst 1, 1) := by decide +kernel
theorem dX6_monthsCome_2 : decode cX6_monthsCome 2 = .ok (.bipush 60, 2) := by decide +kernel
theorem dX6_monthsCome_4 : decode cX6_monthsCome 4 = .ok (.invokestatic 121, 3) := by decide +kernel
theorem dX6_monthsCome_7 : decode cX6_monthsCome 7 = .ok (.ifCond .ne 19, 3) := by decide +kernel
theorem dX6_monthsCome_10 : decode cX6_monthsCome 10 = .ok (.aload_n 0, 1) := by decide +kernel
theorem dX6_monthsCome_11 : decode cX6_monthsCome 11 = .ok (.getfield 125, 3) := by decide +kernel
theorem dX6_monthsCome_14 : decode cX6_monthsCome 14 = .ok (.iload_n 1, 1) := by decide +kernel
theorem dX6_monthsCome_15 : decode cX6_monthsCome 15 = .ok (.iadd, 1) := by decide +kernel
theorem dX6_monthsCome_16 : decode cX6_monthsCome 16 = .ok (.sipush 999, 3) := by decide +kernel
theorem dX6_monthsCome_19 : decode cX6_monthsCome 19 = .ok (.if_icmp .gt 7, 3) := by decide +kernel
theorem dX6_monthsCome_22 : decode cX6_monthsCome 22 = .ok (.iconst 1, 1) := by decide +kernel
theorem dX6_monthsCome_23 : decode cX6_monthsCome 23 = .ok (.goto 4, 3) := by decide +kernel
theorem dX6_monthsCome_26 : decode cX6_monthsCome 26 = .ok (.iconst 0, 1) := by decide +kernel
theorem dX6_monthsCome_27 : decode cX6_monthsCome 27 = .ok (.istore_n 2, 1) := by decide +kernel
theorem dX6_monthsCome_28 : decode cX6_monthsCome 28 = .ok (.iload_n 2, 1) := by decide +kernel
theorem dX6_monthsCome_29 : decode cX6_monthsCome 29 = .ok (.ifCond .eq 8, 3) := by decide +kernel
theorem dX6_monthsCome_32 : decode cX6_monthsCome 32 = .ok (.aload_n 0, 1) := by decide +kernel
theorem dX6_monthsCome_33 : decode cX6_monthsCome 33 = .ok (.iload_n 1, 1) := by decide +kernel
theorem dX6_monthsCome_34 : decode cX6_monthsCome 34 = .ok (.invokevirtual 128, 3) := by decide +kernel
theorem dX6_monthsCome_37 : decode cX6_monthsCome 37 = .ok (.iload_n 2, 1) := by decide +kernel
theorem dX6_monthsCome_38 : decode cX6_monthsCome 38 = .ok (.ireturn, 1) := by decide +kernel
theorem dX7_init_0 : decode cX7_init 0 = .ok (.aload_n 0, 1) := by decide +kernel
theorem dX7_init_1 : decode cX7_init 1 = .ok (.invokespecial 3, 3) := by decide +kernel
theorem dX7_init_4 : decode cX7_init 4 = .ok (.aload_n 0, 1) := by decide +kernel
theorem dX7_init_5 : decode cX7_init 5 = .ok (.aload_n 1, 1) := by decide +kernel
theorem dX7_init_6 : decode cX7_init 6 = .ok (.putfield 9, 3) := by decide +kernel
theorem dX7_init_9 : decode cX7_init 9 = .ok (.aload_n 0, 1) := by decide +kernel
theorem dX7_init_10 : decode cX7_init 10 = .ok (.bipush 8, 2) := by decide +kernel
theorem dX7_init_12 : decode cX7_init 12 = .ok (.newarray .int, 2) := by decide +kernel
theorem dX7_init_14 : decode cX7_init 14 = .ok (.putfield 15, 3) := by decide +kernel
theorem dX7_init_17 : decode cX7_init 17 = .ok (.aload_n 0, 1) := by decide +kernel
theorem dX7_init_18 : decode cX7_init 18 = .ok (.bipush 8, 2) := by decide +kernel
theorem dX7_init_20 : decode cX7_init 20 = .ok (.newarray .int, 2) := by decide +kernel
theorem dX7_init_22 : decode cX7_init 22 = .ok (.putfield 19, 3) := by decide +kernel
theorem dX7_init_25 : decode cX7_init 25 = .ok (.aload_n 0, 1) := by decide +kernel
theorem dX7_init_26 : decode cX7_init 26 = .ok (.bipush 8, 2) := by decide +kernel
theorem dX7_init_28 : decode cX7_init 28 = .ok (.newarray .int, 2) := by decide +kernel
theorem dX7_init_30 : decode cX7_init 30 = .ok (.putfield 22, 3) := by decide +kernel
theorem dX7_init_33 : decode cX7_init 33 = .ok (.aload_n 0, 1) := by decide +kernel
theorem dX7_init_34 : decode cX7_init 34 = .ok (.bipush 8, 2) := by decide +kernel
theorem dX7_init_36 : decode cX7_init 36 = .ok (.newarray .int, 2) := by decide +kernel
theorem dX7_init_38 : decode cX7_init 38 = .ok (.putfield 25, 3) := by decide +kernel
theorem dX7_init_41 : decode cX7_init 41 = .ok (.aload_n 0, 1) := by decide +kernel
theorem dX7_init_42 : decode cX7_init 42 = .ok (.bipush 8, 2) := by decide +kernel
theorem dX7_init_44 : decode cX7_init 44 = .ok (.newarray .int, 2) := by decide +kernel
theorem dX7_init_46 : decode cX7_init 46 = .ok (.putfield 28, 3) := by decide +kernel
theorem dX7_init_49 : decode cX7_init 49 = .ok (.aload_n 0, 1) := by decide +kernel
theorem dX7_init_50 : decode cX7_init 50 = .ok (.bipush 8, 2) := by decide +kernel
theorem dX7_init_52 : decode cX7_init 52 = .ok (.newarray .int, 2) := by decide +kernel
theorem dX7_init_54 : decode cX7_init 54 = .ok (.putfield 31, 3) := by decide +kernel
theorem dX7_init_57 : decode cX7_init 57 = .ok (.aload_n 0, 1) := by decide +kernel
theorem dX7_init_58 : decode cX7_init 58 = .ok (.bipush 8, 2) := by decide +kernel
theorem dX7_init_60 : decode cX7_init 60 = .ok (.newarray .int, 2) := by decide +kernel
theorem dX7_init_62 : decode cX7_init 62 = .ok (.putfield 34, 3) := by decide +kernel
theorem dX7_init_65 : decode cX7_init 65 = .ok (.aload_n 0, 1) := by decide +kernel
theorem dX7_init_66 : decode cX7_init 66 = .ok (.iconst 0, 1) := by decide +kernel
theorem dX7_init_67 : decode cX7_init 67 = .ok (.putfield 37, 3) := by decide +kernel
theorem dX7_init_70 : decode cX7_init 70 = .ok (.aload_n 0, 1) := by decide +kernel
theorem dX7_init_71 : decode cX7_init 71 = .ok (.iconst 0, 1) := by decide +kernel
theorem dX7_init_72 : decode cX7_init 72 = .ok (.putfield 41, 3) := by decide +kernel
theorem dX7_init_75 : decode cX7_init 75 = .ok (.return_, 1) := by decide +kernel
theorem dX7_becomeLike_0 : decode cX7_becomeLike 0 = .ok (.aload_n 0, 1) := by decide +kernel
theorem dX7_becomeLike_1 : decode cX7_becomeLike 1 = .ok (.aload_n 1, 1) := by decide +kernel
theorem dX7_becomeLike_2 : decode cX7_becomeLike 2 = .ok (.getfield 37, 3) := by decide +kernel
theorem dX7_becomeLike_5 : decode cX7_becomeLike 5 = .ok (.putfield 37, 3) := by decide +kernel
theorem dX7_becomeLike_8 : decode cX7_becomeLike 8 = .ok (.aload_n 0, 1) := by decide +kernel
theorem dX7_becomeLike_9 : decode cX7_becomeLike 9 = .ok (.aload_n 1, 1) := by decide +kernel
theorem dX7_becomeLike_10 : decode cX7_becomeLike 10 = .ok (.getfield 41, 3) := by decide +kernel
theorem dX7_becomeLike_13 : decode cX7_becomeLike 13 = .ok (.putfield 41, 3) := by decide +kernel
theorem dX7_becomeLike_16 : decode cX7_becomeLike 16 = .ok (.iconst 0, 1) := by decide +kernel
theorem dX7_becomeLike_17 : decode cX7_becomeLike 17 = .ok (.istore_n 2, 1) := by decide +kernel
theorem dX7_becomeLike_18 : decode cX7_becomeLike 18 = .ok (.iload_n 2, 1) := by decide +kernel
theorem dX7_becomeLike_19 : decode cX7_becomeLike 19 = .ok (.aload_n 0, 1) := by decide +kernel
theorem dX7_becomeLike_20 : decode cX7_becomeLike 20 = .ok (.getfield 37, 3) := by decide +kernel
theorem dX7_becomeLike_23 : decode cX7_becomeLike 23 = .ok (.if_icmp .ge 93, 3) := by decide +kernel
theorem dX7_becomeLike_26 : decode cX7_becomeLike 26 = .ok (.aload_n 0, 1) := by decide +kernel
theorem dX7_becomeLike_27 : decode cX7_becomeLike 27 = .ok (.getfield 15, 3) := by decide +kernel
theorem dX7_becomeLike_30 : decode cX7_becomeLike 30 = .ok (.iload_n 2, 1) := by decide +kernel
theorem dX7_becomeLike_31 : decode cX7_becomeLike 31 = .ok (.aload_n 1, 1) := by decide +kernel
theorem dX7_becomeLike_32 : decode cX7_becomeLike 32 = .ok (.getfield 15, 3) := by decide +kernel
theorem dX7_becomeLike_35 : decode cX7_becomeLike 35 = .ok (.iload_n 2, 1) := by decide +kernel
theorem dX7_becomeLike_36 : decode cX7_becomeLike 36 = .ok (.iaload, 1) := by decide +kernel
theorem dX7_becomeLike_37 : decode cX7_becomeLike 37 = .ok (.iastore, 1) := by decide +kernel
theorem dX7_becomeLike_38 : decode cX7_becomeLike 38 = .ok (.aload_n 0, 1) := by decide +kernel
theorem dX7_becomeLike_39 : decode cX7_becomeLike 39 = .ok (.getfield 19, 3) := by decide +kernel
theorem dX7_becomeLike_42 : decode cX7_becomeLike 42 = .ok (.iload_n 2, 1) := by decide +kernel
theorem dX7_becomeLike_43 : decode cX7_becomeLike 43 = .ok (.aload_n 1, 1) := by decide +kernel
theorem dX7_becomeLike_44 : decode cX7_becomeLike 44 = .ok (.getfield 19, 3) := by decide +kernel
theorem dX7_becomeLike_47 : decode cX7_becomeLike 47 = .ok (.iload_n 2, 1) := by decide +kernel
theorem dX7_becomeLike_48 : decode cX7_becomeLike 48 = .ok (.iaload, 1) := by decide +kernel
theorem dX7_becomeLike_49 : decode cX7_becomeLike 49 = .ok (.iastore, 1) := by decide +kernel
theorem dX7_becomeLike_50 : decode cX7_becomeLike 50 = .ok (.aload_n 0, 1) := by decide +kernel
theorem dX7_becomeLike_51 : decode cX7_becomeLike 51 = .ok (.getfield 22, 3) := by decide +kernel
theorem dX7_becomeLike_54 : decode cX7_becomeLike 54 = .ok (.iload_n 2, 1) := by decide +kernel
theorem dX7_becomeLike_55 : decode cX7_becomeLike 55 = .ok (.aload_n 1, 1) := by decide +kernel
theorem dX7_becomeLike_56 : decode cX7_becomeLike 56 = .ok (.getfield 22, 3) := by decide +kernel
theorem dX7_becomeLike_59 : decode cX7_becomeLike 59 = .ok (.iload_n 2, 1) := by decide +kernel
theorem dX7_becomeLike_60 : decode cX7_becomeLike 60 = .ok (.iaload, 1) := by decide +kernel
theorem dX7_becomeLike_61 : decode cX7_becomeLike 61 = .ok (.iastore, 1) := by decide +kernel
theorem dX7_becomeLike_62 : decode cX7_becomeLike 62 = .ok (.aload_n 0, 1) := by decide +kernel
theorem dX7_becomeLike_63 : decode cX7_becomeLike 63 = .ok (.getfield 25, 3) := by decide +kernel
theorem dX7_becomeLike_66 : decode cX7_becomeLike 66 = .ok (.iload_n 2, 1) := by decide +kernel
theorem dX7_becomeLike_67 : decode cX7_becomeLike 67 = .ok (.aload_n 1, 1) := by decide +kernel
theorem dX7_becomeLike_68 : decode cX7_becomeLike 68 = .ok (.getfield 25, 3) := by decide +kernel
theorem dX7_becomeLike_71 : decode cX7_becomeLike 71 = .ok (.iload_n 2, 1) := by decide +kernel
theorem dX7_becomeLike_72 : decode cX7_becomeLike 72 = .ok (.iaload, 1) := by decide +kernel
theorem dX7_becomeLike_73 : decode cX7_becomeLike 73 = .ok (.iastore, 1) := by decide +kernel
theorem dX7_becomeLike_74 : decode cX7_becomeLike 74 = .ok (.aload_n 0, 1) := by decide +kernel
theorem dX7_becomeLike_75 : decode cX7_becomeLike 75 = .ok (.getfield 28, 3) := by decide +kernel
theorem dX7_becomeLike_78 : decode cX7_becomeLike 78 = .ok (.iload_n 2, 1) := by decide +kernel
theorem dX7_becomeLike_79 : decode cX7_becomeLike 79 = .ok (.aload_n 1, 1) := by decide +kernel
theorem dX7_becomeLike_80 : decode cX7_becomeLike 80 = .ok (.getfield 28, 3) := by decide +kernel
theorem dX7_becomeLike_83 : decode cX7_becomeLike 83 = .ok (.iload_n 2, 1) := by decide +kernel
theorem dX7_becomeLike_84 : decode cX7_becomeLike 84 = .ok (.iaload, 1) := by decide +kernel
theorem dX7_becomeLike_85 : decode cX7_becomeLike 85 = .ok (.iastore, 1) := by decide +kernel
theorem dX7_becomeLike_86 : decode cX7_becomeLike 86 = .ok (.aload_n 0, 1) := by decide +kernel
theorem dX7_becomeLike_87 : decode cX7_becomeLike 87 = .ok (.getfield 31, 3) := by decide +kernel
theorem dX7_becomeLike_90 : decode cX7_becomeLike 90 = .ok (.iload_n 2, 1) := by decide +kernel
theorem dX7_becomeLike_91 : decode cX7_becomeLike 91 = .ok (.aload_n 1, 1) := by decide +kernel
theorem dX7_becomeLike_92 : decode cX7_becomeLike 92 = .ok (.getfield 31, 3) := by decide +kernel
theorem dX7_becomeLike_95 : decode cX7_becomeLike 95 = .ok (.iload_n 2, 1) := by decide +kernel
theorem dX7_becomeLike_96 : decode cX7_becomeLike 96 = .ok (.iaload, 1) := by decide +kernel
theorem dX7_becomeLike_97 : decode cX7_becomeLike 97 = .ok (.iastore, 1) := by decide +kernel
theorem dX7_becomeLike_98 : decode cX7_becomeLike 98 = .ok (.aload_n 0, 1) := by decide +kernel
theorem dX7_becomeLike_99 : decode cX7_becomeLike 99 = .ok (.getfield 34, 3) := by decide +kernel
theorem dX7_becomeLike_102 : decode cX7_becomeLike 102 = .ok (.iload_n 2, 1) := by decide +kernel
theorem dX7_becomeLike_103 : decode cX7_becomeLike 103 = .ok (.aload_n 1, 1) := by decide +kernel
theorem dX7_becomeLike_104 : decode cX7_becomeLike 104 = .ok (.getfield 34, 3) := by decide +kernel
theorem dX7_becomeLike_107 : decode cX7_becomeLike 107 = .ok (.iload_n 2, 1) := by decide +kernel
theorem dX7_becomeLike_108 : decode cX7_becomeLike 108 = .ok (.iaload, 1) := by decide +kernel
theorem dX7_becomeLike_109 : decode cX7_becomeLike 109 = .ok (.iastore, 1) := by decide +kernel
theorem dX7_becomeLike_110 : decode cX7_becomeLike 110 = .ok (.iinc 2 1, 3) := by decide +kernel
theorem dX7_becomeLike_113 : decode cX7_becomeLike 113 = .ok (.goto (-95), 3) := by decide +kernel
theorem dX7_becomeLike_116 : decode cX7_becomeLike 116 = .ok (.return_, 1) := by decide +kernel
theorem dX7_isThere_0 : decode cX7_isThere 0 = .ok (.iload_n 1, 1) := by decide +kernel
theorem dX7_isThere_1 : decode cX7_isThere 1 = .ok (.ifCond .lt 15, 3) := by decide +kernel
theorem dX7_isThere_4 : decode cX7_isThere 4 = .ok (.iload_n 1, 1) := by decide +kernel
theorem dX7_isThere_5 : decode cX7_isThere 5 = .ok (.aload_n 0, 1) := by decide +kernel
theorem dX7_isThere_6 : decode cX7_isThere 6 = .ok (.getfield 37, 3) := by decide +kernel
theorem dX7_isThere_9 : decode cX7_isThere 9 = .ok (.if_icmp .ge 7, 3) := by decide +kernel
theorem dX7_isThere_12 : decode cX7_isThere 12 = .ok (.iconst 1, 1) := by decide +kernel
theorem dX7_isThere_13 : decode cX7_isThere 13 = .ok (.goto 4, 3) := by decide +kernel
theorem dX7_isThere_16 : decode cX7_isThere 16 = .ok (.iconst 0, 1) := by decide +kernel
theorem dX7_isThere_17 : decode cX7_isThere 17 = .ok (.ireturn, 1) := by decide +kernel
theorem dX7_takesIn_0 : decode cX7_takesIn 0 = .ok (.aload_n 0, 1) := by decide +kernel
theorem dX7_takesIn_1 : decode cX7_takesIn 1 = .ok (.getfield 37, 3) := by decide +kernel
theorem dX7_takesIn_4 : decode cX7_takesIn 4 = .ok (.bipush 8, 2) := by decide +kernel
theorem dX7_takesIn_6 : decode cX7_takesIn 6 = .ok (.if_icmp .lt 5, 3) := by decide +kernel
theorem dX7_takesIn_9 : decode cX7_takesIn 9 = .ok (.iconst 0, 1) := by decide +kernel
theorem dX7_takesIn_10 : decode cX7_takesIn 10 = .ok (.ireturn, 1) := by decide +kernel
theorem dX7_takesIn_11 : decode cX7_takesIn 11 = .ok (.aload_n 0, 1) := by decide +kernel
theorem dX7_takesIn_12 : decode cX7_takesIn 12 = .ok (.getfield 15, 3) := by decide +kernel
theorem dX7_takesIn_15 : decode cX7_takesIn 15 = .ok (.aload_n 0, 1) := by decide +kernel
theorem dX7_takesIn_16 : decode cX7_takesIn 16 = .ok (.getfield 37, 3) := by decide +kernel
theorem dX7_takesIn_19 : decode cX7_takesIn 19 = .ok (.iload_n 1, 1) := by decide +kernel
theorem dX7_takesIn_20 : decode cX7_takesIn 20 = .ok (.iastore, 1) := by decide +kernel
theorem dX7_takesIn_21 : decode cX7_takesIn 21 = .ok (.aload_n 0, 1) := by decide +kernel
theorem dX7_takesIn_22 : decode cX7_takesIn 22 = .ok (.getfield 19, 3) := by decide +kernel
theorem dX7_takesIn_25 : decode cX7_takesIn 25 = .ok (.aload_n 0, 1) := by decide +kernel
theorem dX7_takesIn_26 : decode cX7_takesIn 26 = .ok (.getfield 37, 3) := by decide +kernel
theorem dX7_takesIn_29 : decode cX7_takesIn 29 = .ok (.iload_n 2, 1) := by decide +kernel
theorem dX7_takesIn_30 : decode cX7_takesIn 30 = .ok (.iastore, 1) := by decide +kernel
theorem dX7_takesIn_31 : decode cX7_takesIn 31 = .ok (.aload_n 0, 1) := by decide +kernel
theorem dX7_takesIn_32 : decode cX7_takesIn 32 = .ok (.getfield 22, 3) := by decide +kernel
theorem dX7_takesIn_35 : decode cX7_takesIn 35 = .ok (.aload_n 0, 1) := by decide +kernel
theorem dX7_takesIn_36 : decode cX7_takesIn 36 = .ok (.getfield 37, 3) := by decide +kernel
theorem dX7_takesIn_39 : decode cX7_takesIn 39 = .ok (.iconst 1, 1) := by decide +kernel
theorem dX7_takesIn_40 : decode cX7_takesIn 40 = .ok (.aload_n 0, 1) := by decide +kernel
theorem dX7_takesIn_41 : decode cX7_takesIn 41 = .ok (.getfield 37, 3) := by decide +kernel
theorem dX7_takesIn_44 : decode cX7_takesIn 44 = .ok (.ishl, 1) := by decide +kernel
theorem dX7_takesIn_45 : decode cX7_takesIn 45 = .ok (.iastore, 1) := by decide +kernel
theorem dX7_takesIn_46 : decode cX7_takesIn 46 = .ok (.aload_n 0, 1) := by decide +kernel
theorem dX7_takesIn_47 : decode cX7_takesIn 47 = .ok (.getfield 25, 3) := by decide +kernel
theorem dX7_takesIn_50 : decode cX7_takesIn 50 = .ok (.aload_n 0, 1) := by decide +kernel
theorem dX7_takesIn_51 : decode cX7_takesIn 51 = .ok (.getfield 37, 3) := by decide +kernel
theorem dX7_takesIn_54 : decode cX7_takesIn 54 = .ok (.aload_n 0, 1) := by decide +kernel
theorem dX7_takesIn_55 : decode cX7_takesIn 55 = .ok (.getfield 37, 3) := by decide +kernel
theorem dX7_takesIn_58 : decode cX7_takesIn 58 = .ok (.iastore, 1) := by decide +kernel
theorem dX7_takesIn_59 : decode cX7_takesIn 59 = .ok (.aload_n 0, 1) := by decide +kernel
theorem dX7_takesIn_60 : decode cX7_takesIn 60 = .ok (.getfield 28, 3) := by decide +kernel
theorem dX7_takesIn_63 : decode cX7_takesIn 63 = .ok (.aload_n 0, 1) := by decide +kernel
theorem dX7_takesIn_64 : decode cX7_takesIn 64 = .ok (.getfield 37, 3) := by decide +kernel
theorem dX7_takesIn_67 : decode cX7_takesIn 67 = .ok (.bipush 50, 2) := by decide +kernel
theorem dX7_takesIn_69 : decode cX7_takesIn 69 = .ok (.iastore, 1) := by decide +kernel
theorem dX7_takesIn_70 : decode cX7_takesIn 70 = .ok (.aload_n 0, 1) := by decide +kernel
theorem dX7_takesIn_71 : decode cX7_takesIn 71 = .ok (.getfield 31, 3) := by decide +kernel
theorem dX7_takesIn_74 : decode cX7_takesIn 74 = .ok (.aload_n 0, 1) := by decide +kernel
theorem dX7_takesIn_75 : decode cX7_takesIn 75 = .ok (.getfield 37, 3) := by decide +kernel
theorem dX7_takesIn_78 : decode cX7_takesIn 78 = .ok (.iconst 0, 1) := by decide +kernel
theorem dX7_takesIn_79 : decode cX7_takesIn 79 = .ok (.iastore, 1) := by decide +kernel
theorem dX7_takesIn_80 : decode cX7_takesIn 80 = .ok (.aload_n 0, 1) := by decide +kernel
theorem dX7_takesIn_81 : decode cX7_takesIn 81 = .ok (.getfield 34, 3) := by decide +kernel
theorem dX7_takesIn_84 : decode cX7_takesIn 84 = .ok (.aload_n 0, 1) := by decide +kernel
theorem dX7_takesIn_85 : decode cX7_takesIn 85 = .ok (.getfield 37, 3) := by decide +kernel
theorem dX7_takesIn_88 : decode cX7_takesIn 88 = .ok (.iconst 0, 1) := by decide +kernel
theorem dX7_takesIn_89 : decode cX7_takesIn 89 = .ok (.iastore, 1) := by decide +kernel
theorem dX7_takesIn_90 : decode cX7_takesIn 90 = .ok (.aload_n 0, 1) := by decide +kernel
theorem dX7_takesIn_91 : decode cX7_takesIn 91 = .ok (.dup, 1) := by decide +kernel
theorem dX7_takesIn_92 : decode cX7_takesIn 92 = .ok (.getfield 37, 3) := by decide +kernel
theorem dX7_takesIn_95 : decode cX7_takesIn 95 = .ok (.iconst 1, 1) := by decide +kernel
theorem dX7_takesIn_96 : decode cX7_takesIn 96 = .ok (.iadd, 1) := by decide +kernel
theorem dX7_takesIn_97 : decode cX7_takesIn 97 = .ok (.putfield 37, 3) := by decide +kernel
theorem dX7_takesIn_100 : decode cX7_takesIn 100 = .ok (.iconst 1, 1) := by decide +kernel
theorem dX7_takesIn_101 : decode cX7_takesIn 101 = .ok (.ireturn, 1) := by decide +kernel
theorem dX7_wearsOwn_0 : decode cX7_wearsOwn 0 = .ok (.aload_n 0, 1) := by decide +kernel
theorem dX7_wearsOwn_1 : decode cX7_wearsOwn 1 = .ok (.getfield 25, 3) := by decide +kernel
theorem dX7_wearsOwn_4 : decode cX7_wearsOwn 4 = .ok (.iload_n 1, 1) := by decide +kernel
theorem dX7_wearsOwn_5 : decode cX7_wearsOwn 5 = .ok (.iaload, 1) := by decide +kernel
theorem dX7_wearsOwn_6 : decode cX7_wearsOwn 6 = .ok (.iload_n 1, 1) := by decide +kernel
theorem dX7_wearsOwn_7 : decode cX7_wearsOwn 7 = .ok (.if_icmp .ne 7, 3) := by decide +kernel
theorem dX7_wearsOwn_10 : decode cX7_wearsOwn 10 = .ok (.iconst 1, 1) := by decide +kernel
theorem dX7_wearsOwn_11 : decode cX7_wearsOwn 11 = .ok (.goto 4, 3) := by decide +kernel
theorem dX7_wearsOwn_14 : decode cX7_wearsOwn 14 = .ok (.iconst 0, 1) := by decide +kernel
theorem dX7_wearsOwn_15 : decode cX7_wearsOwn 15 = .ok (.ireturn, 1) := by decide +kernel
theorem dX7_isLent_0 : decode cX7_isLent 0 = .ok (.aload_n 0, 1) := by decide +kernel
theorem dX7_isLent_1 : decode cX7_isLent 1 = .ok (.getfield 34, 3) := by decide +kernel
theorem dX7_isLent_4 : decode cX7_isLent 4 = .ok (.iload_n 1, 1) := by decide +kernel
theorem dX7_isLent_5 : decode cX7_isLent 5 = .ok (.iaload, 1) := by decide +kernel
theorem dX7_isLent_6 : decode cX7_isLent 6 = .ok (.ifCond .le 7, 3) := by decide +kernel
theorem dX7_isLent_9 : decode cX7_isLent 9 = .ok (.iconst 1, 1) := by decide +kernel
theorem dX7_isLent_10 : decode cX7_isLent 10 = .ok (.goto 4, 3) := by decide +kernel
theorem dX7_isLent_13 : decode cX7_isLent 13 = .ok (.iconst 0, 1) := by decide +kernel
theorem dX7_isLent_14 : decode cX7_isLent 14 = .ok (.ireturn, 1) := by decide +kernel
theorem dX7_canLend_0 : decode cX7_canLend 0 = .ok (.iload_n 1, 1) := by decide +kernel
theorem dX7_canLend_1 : decode cX7_canLend 1 = .ok (.iload_n 2, 1) := by decide +kernel
theorem dX7_canLend_2 : decode cX7_canLend 2 = .ok (.if_icmp .eq 23, 3) := by decide +kernel
theorem dX7_canLend_5 : decode cX7_canLend 5 = .ok (.aload_n 0, 1) := by decide +kernel
theorem dX7_canLend_6 : decode cX7_canLend 6 = .ok (.iload_n 1, 1) := by decide +kernel
theorem dX7_canLend_7 : decode cX7_canLend 7 = .ok (.invokevirtual 44, 3) := by decide +kernel
theorem dX7_canLend_10 : decode cX7_canLend 10 = .ok (.ifCond .eq 15, 3) := by decide +kernel
theorem dX7_canLend_13 : decode cX7_canLend 13 = .ok (.aload_n 0, 1) := by decide +kernel
theorem dX7_canLend_14 : decode cX7_canLend 14 = .ok (.iload_n 2, 1) := by decide +kernel
theorem dX7_canLend_15 : decode cX7_canLend 15 = .ok (.invokevirtual 44, 3) := by decide +kernel
theorem dX7_canLend_18 : decode cX7_canLend 18 = .ok (.ifCond .eq 7, 3) := by decide +kernel
theorem dX7_canLend_21 : decode cX7_canLend 21 = .ok (.iconst 1, 1) := by decide +kernel
theorem dX7_canLend_22 : decode cX7_canLend 22 = .ok (.goto 4, 3) := by decide +kernel
theorem dX7_canLend_25 : decode cX7_canLend 25 = .ok (.iconst 0, 1) := by decide +kernel
theorem dX7_canLend_26 : decode cX7_canLend 26 = .ok (.ireturn, 1) := by decide +kernel
theorem dX7_handOver_0 : decode cX7_handOver 0 = .ok (.aload_n 0, 1) := by decide +kernel
theorem dX7_handOver_1 : decode cX7_handOver 1 = .ok (.getfield 25, 3) := by decide +kernel
theorem dX7_handOver_4 : decode cX7_handOver 4 = .ok (.iload_n 1, 1) := by decide +kernel
theorem dX7_handOver_5 : decode cX7_handOver 5 = .ok (.bipush 9, 2) := by decide +kernel
theorem dX7_handOver_7 : decode cX7_handOver 7 = .ok (.iastore, 1) := by decide +kernel
theorem dX7_handOver_8 : decode cX7_handOver 8 = .ok (.aload_n 0, 1) := by decide +kernel
theorem dX7_handOver_9 : decode cX7_handOver 9 = .ok (.getfield 25, 3) := by decide +kernel
theorem dX7_handOver_12 : decode cX7_handOver 12 = .ok (.iload_n 2, 1) := by decide +kernel
theorem dX7_handOver_13 : decode cX7_handOver 13 = .ok (.iload_n 1, 1) := by decide +kernel
theorem dX7_handOver_14 : decode cX7_handOver 14 = .ok (.iastore, 1) := by decide +kernel
theorem dX7_handOver_15 : decode cX7_handOver 15 = .ok (.aload_n 0, 1) := by decide +kernel
theorem dX7_handOver_16 : decode cX7_handOver 16 = .ok (.getfield 34, 3) := by decide +kernel
theorem dX7_handOver_19 : decode cX7_handOver 19 = .ok (.iload_n 1, 1) := by decide +kernel
theorem dX7_handOver_20 : decode cX7_handOver 20 = .ok (.iconst 1, 1) := by decide +kernel
theorem dX7_handOver_21 : decode cX7_handOver 21 = .ok (.iastore, 1) := by decide +kernel
theorem dX7_handOver_22 : decode cX7_handOver 22 = .ok (.return_, 1) := by decide +kernel
theorem dX7_bringBack_0 : decode cX7_bringBack 0 = .ok (.aload_n 0, 1) := by decide +kernel
theorem dX7_bringBack_1 : decode cX7_bringBack 1 = .ok (.iload_n 1, 1) := by decide +kernel
theorem dX7_bringBack_2 : decode cX7_bringBack 2 = .ok (.invokevirtual 48, 3) := by decide +kernel
theorem dX7_bringBack_5 : decode cX7_bringBack 5 = .ok (.istore_n 2, 1) := by decide +kernel
theorem dX7_bringBack_6 : decode cX7_bringBack 6 = .ok (.iload_n 2, 1) := by decide +kernel
theorem dX7_bringBack_7 : decode cX7_bringBack 7 = .ok (.bipush (-9), 2) := by decide +kernel
theorem dX7_bringBack_9 : decode cX7_bringBack 9 = .ok (.if_icmp .eq 10, 3) := by decide +kernel
theorem dX7_bringBack_12 : decode cX7_bringBack 12 = .ok (.aload_n 0, 1) := by decide +kernel
theorem dX7_bringBack_13 : decode cX7_bringBack 13 = .ok (.getfield 25, 3) := by decide +kernel
theorem dX7_bringBack_16 : decode cX7_bringBack 16 = .ok (.iload_n 2, 1) := by decide +kernel
theorem dX7_bringBack_17 : decode cX7_bringBack 17 = .ok (.iload_n 2, 1) := by decide +kernel
theorem dX7_bringBack_18 : decode cX7_bringBack 18 = .ok (.iastore, 1) := by decide +kernel
theorem dX7_bringBack_19 : decode cX7_bringBack 19 = .ok (.aload_n 0, 1) := by decide +kernel
theorem dX7_bringBack_20 : decode cX7_bringBack 20 = .ok (.getfield 25, 3) := by decide +kernel
theorem dX7_bringBack_23 : decode cX7_bringBack 23 = .ok (.iload_n 1, 1) := by decide +kernel
theorem dX7_bringBack_24 : decode cX7_bringBack 24 = .ok (.iload_n 1, 1) := by decide +kernel
theorem dX7_bringBack_25 : decode cX7_bringBack 25 = .ok (.iastore, 1) := by decide +kernel
theorem dX7_bringBack_26 : decode cX7_bringBack 26 = .ok (.aload_n 0, 1) := by decide +kernel
theorem dX7_bringBack_27 : decode cX7_bringBack 27 = .ok (.getfield 34, 3) := by decide +kernel
theorem dX7_bringBack_30 : decode cX7_bringBack 30 = .ok (.iload_n 1, 1) := by decide +kernel
theorem dX7_bringBack_31 : decode cX7_bringBack 31 = .ok (.iconst 0, 1) := by decide +kernel
theorem dX7_bringBack_32 : decode cX7_bringBack 32 = .ok (.iastore, 1) := by decide +kernel
theorem dX7_bringBack_33 : decode cX7_bringBack 33 = .ok (.iload_n 2, 1) := by decide +kernel
theorem dX7_bringBack_34 : decode cX7_bringBack 34 = .ok (.ireturn, 1) := by decide +kernel
theorem dX7_wearerOf_0 : decode cX7_wearerOf 0 = .ok (.iconst 0, 1) := by decide +kernel
theorem dX7_wearerOf_1 : decode cX7_wearerOf 1 = .ok (.istore_n 2, 1) := by decide +kernel
theorem dX7_wearerOf_2 : decode cX7_wearerOf 2 = .ok (.iload_n 2, 1) := by decide +kernel
theorem dX7_wearerOf_3 : decode cX7_wearerOf 3 = .ok (.aload_n 0, 1) := by decide +kernel
theorem dX7_wearerOf_4 : decode cX7_wearerOf 4 = .ok (.getfield 37, 3) := by decide +kernel
theorem dX7_wearerOf_7 : decode cX7_wearerOf 7 = .ok (.if_icmp .ge 21, 3) := by decide +kernel
theorem dX7_wearerOf_10 : decode cX7_wearerOf 10 = .ok (.aload_n 0, 1) := by decide +kernel
theorem dX7_wearerOf_11 : decode cX7_wearerOf 11 = .ok (.getfield 25, 3) := by decide +kernel
theorem dX7_wearerOf_14 : decode cX7_wearerOf 14 = .ok (.iload_n 2, 1) := by decide +kernel
theorem dX7_wearerOf_15 : decode cX7_wearerOf 15 = .ok (.iaload, 1) := by decide +kernel
theorem dX7_wearerOf_16 : decode cX7_wearerOf 16 = .ok (.iload_n 1, 1) := by decide +kernel
theorem dX7_wearerOf_17 : decode cX7_wearerOf 17 = .ok (.if_icmp .ne 5, 3) := by decide +kernel
theorem dX7_wearerOf_20 : decode cX7_wearerOf 20 = .ok (.iload_n 2, 1) := by decide +kernel
theorem dX7_wearerOf_21 : decode cX7_wearerOf 21 = .ok (.ireturn, 1) := by decide +kernel
theorem dX7_wearerOf_22 : decode cX7_wearerOf 22 = .ok (.iinc 2 1, 3) := by decide +kernel
theorem dX7_wearerOf_25 : decode cX7_wearerOf 25 = .ok (.goto (-23), 3) := by decide +kernel
theorem dX7_wearerOf_28 : decode cX7_wearerOf 28 = .ok (.bipush (-9), 2) := by decide +kernel
theorem dX7_wearerOf_30 : decode cX7_wearerOf 30 = .ok (.ireturn, 1) := by decide +kernel
theorem dX7_ofFace_0 : decode cX7_ofFace 0 = .ok (.iload_n 2, 1) := by decide +kernel
theorem dX7_ofFace_1 : decode cX7_ofFace 1 = .ok (.tableswitch 48 0 2 #[27, 34, 41], 27) := by decide +kernel
theorem dX7_ofFace_28 : decode cX7_ofFace 28 = .ok (.aload_n 0, 1) := by decide +kernel
theorem dX7_ofFace_29 : decode cX7_ofFace 29 = .ok (.getfield 28, 3) := by decide +kernel
theorem dX7_ofFace_32 : decode cX7_ofFace 32 = .ok (.iload_n 1, 1) := by decide +kernel
theorem dX7_ofFace_33 : decode cX7_ofFace 33 = .ok (.iaload, 1) := by decide +kernel
theorem dX7_ofFace_34 : decode cX7_ofFace 34 = .ok (.ireturn, 1) := by decide +kernel
theorem dX7_ofFace_35 : decode cX7_ofFace 35 = .ok (.aload_n 0, 1) := by decide +kernel
theorem dX7_ofFace_36 : decode cX7_ofFace 36 = .ok (.getfield 31, 3) := by decide +kernel
theorem dX7_ofFace_39 : decode cX7_ofFace 39 = .ok (.iload_n 1, 1) := by decide +kernel
theorem dX7_ofFace_40 : decode cX7_ofFace 40 = .ok (.iaload, 1) := by decide +kernel
theorem dX7_ofFace_41 : decode cX7_ofFace 41 = .ok (.ireturn, 1) := by decide +kernel
theorem dX7_ofFace_42 : decode cX7_ofFace 42 = .ok (.aload_n 0, 1) := by decide +kernel
theorem dX7_ofFace_43 : decode cX7_ofFace 43 = .ok (.getfield 34, 3) := by decide +kernel
theorem dX7_ofFace_46 : decode cX7_ofFace 46 = .ok (.iload_n 1, 1) := by decide +kernel
theorem dX7_ofFace_47 : decode cX7_ofFace 47 = .ok (.iaload, 1) := by decide +kernel
theorem dX7_ofFace_48 : decode cX7_ofFace 48 = .ok (.ireturn, 1) := by decide +kernel
theorem dX7_ofFace_49 : decode cX7_ofFace 49 = .ok (.aload_n 0, 1) := by decide +kernel
theorem dX7_ofFace_50 : decode cX7_ofFace 50 = .ok (.iload_n 1, 1) := by decide +kernel
theorem dX7_ofFace_51 : decode cX7_ofFace 51 = .ok (.invokevirtual 48, 3) := by decide +kernel
theorem dX7_ofFace_54 : decode cX7_ofFace 54 = .ok (.ireturn, 1) := by decide +kernel
theorem dX7_turnKnowing_0 : decode cX7_turnKnowing 0 = .ok (.aload_n 0, 1) := by decide +kernel
theorem dX7_turnKnowing_1 : decode cX7_turnKnowing 1 = .ok (.getfield 22, 3) := by decide +kernel
theorem dX7_turnKnowing_4 : decode cX7_turnKnowing 4 = .ok (.iload_n 1, 1) := by decide +kernel
theorem dX7_turnKnowing_5 : decode cX7_turnKnowing 5 = .ok (.dup2, 1) := by decide +kernel
theorem dX7_turnKnowing_6 : decode cX7_turnKnowing 6 = .ok (.iaload, 1) := by decide +kernel
theorem dX7_turnKnowing_7 : decode cX7_turnKnowing 7 = .ok (.iconst 1, 1) := by decide +kernel
theorem dX7_turnKnowing_8 : decode cX7_turnKnowing 8 = .ok (.iload_n 2, 1) := by decide +kernel
theorem dX7_turnKnowing_9 : decode cX7_turnKnowing 9 = .ok (.ishl, 1) := by decide +kernel
theorem dX7_turnKnowing_10 : decode cX7_turnKnowing 10 = .ok (.ixor, 1) := by decide +kernel
theorem dX7_turnKnowing_11 : decode cX7_turnKnowing 11 = .ok (.iastore, 1) := by decide +kernel
theorem dX7_turnKnowing_12 : decode cX7_turnKnowing 12 = .ok (.return_, 1) := by decide +kernel
theorem dX7_knowsFace_0 : decode cX7_knowsFace 0 = .ok (.aload_n 0, 1) := by decide +kernel
theorem dX7_knowsFace_1 : decode cX7_knowsFace 1 = .ok (.getfield 22, 3) := by decide +kernel
theorem dX7_knowsFace_4 : decode cX7_knowsFace 4 = .ok (.iload_n 1, 1) := by decide +kernel
theorem dX7_knowsFace_5 : decode cX7_knowsFace 5 = .ok (.iaload, 1) := by decide +kernel
theorem dX7_knowsFace_6 : decode cX7_knowsFace 6 = .ok (.iload_n 2, 1) := by decide +kernel
theorem dX7_knowsFace_7 : decode cX7_knowsFace 7 = .ok (.ishr, 1) := by decide +kernel
theorem dX7_knowsFace_8 : decode cX7_knowsFace 8 = .ok (.iconst 1, 1) := by decide +kernel
theorem dX7_knowsFace_9 : decode cX7_knowsFace 9 = .ok (.iand, 1) := by decide +kernel
theorem dX7_knowsFace_10 : decode cX7_knowsFace 10 = .ok (.iconst 1, 1) := by decide +kernel
theorem dX7_knowsFace_11 : decode cX7_knowsFace 11 = .ok (.if_icmp .ne 7, 3) := by decide +kernel
theorem dX7_knowsFace_14 : decode cX7_knowsFace 14 = .ok (.iconst 1, 1) := by decide +kernel
theorem dX7_knowsFace_15 : decode cX7_knowsFace 15 = .ok (.goto 4, 3) := by decide +kernel
theorem dX7_knowsFace_18 : decode cX7_knowsFace 18 = .ok (.iconst 0, 1) := by decide +kernel
theorem dX7_knowsFace_19 : decode cX7_knowsFace 19 = .ok (.ireturn, 1) := by decide +kernel
theorem dX7_takenFor_0 : decode cX7_takenFor 0 = .ok (.aload_n 0, 1) := by decide +kernel
theorem dX7_takenFor_1 : decode cX7_takenFor 1 = .ok (.getfield 25, 3) := by decide +kernel
theorem dX7_takenFor_4 : decode cX7_takenFor 4 = .ok (.iload_n 2, 1) := by decide +kernel
theorem dX7_takenFor_5 : decode cX7_takenFor 5 = .ok (.iaload, 1) := by decide +kernel
theorem dX7_takenFor_6 : decode cX7_takenFor 6 = .ok (.istore_n 3, 1) := by decide +kernel
theorem dX7_takenFor_7 : decode cX7_takenFor 7 = .ok (.iload_n 3, 1) := by decide +kernel
theorem dX7_takenFor_8 : decode cX7_takenFor 8 = .ok (.bipush 9, 2) := by decide +kernel
theorem dX7_takenFor_10 : decode cX7_takenFor 10 = .ok (.if_icmp .eq 16, 3) := by decide +kernel
theorem dX7_takenFor_13 : decode cX7_takenFor 13 = .ok (.aload_n 0, 1) := by decide +kernel
theorem dX7_takenFor_14 : decode cX7_takenFor 14 = .ok (.iload_n 1, 1) := by decide +kernel
theorem dX7_takenFor_15 : decode cX7_takenFor 15 = .ok (.iload_n 3, 1) := by decide +kernel
theorem dX7_takenFor_16 : decode cX7_takenFor 16 = .ok (.invokevirtual 52, 3) := by decide +kernel
theorem dX7_takenFor_19 : decode cX7_takenFor 19 = .ok (.ifCond .eq 7, 3) := by decide +kernel
theorem dX7_takenFor_22 : decode cX7_takenFor 22 = .ok (.iload_n 3, 1) := by decide +kernel
theorem dX7_takenFor_23 : decode cX7_takenFor 23 = .ok (.goto 5, 3) := by decide +kernel
theorem dX7_takenFor_26 : decode cX7_takenFor 26 = .ok (.bipush 9, 2) := by decide +kernel
theorem dX7_takenFor_28 : decode cX7_takenFor 28 = .ok (.ireturn, 1) := by decide +kernel
theorem dX7_knowersOf_0 : decode cX7_knowersOf 0 = .ok (.iconst 0, 1) := by decide +kernel
theorem dX7_knowersOf_1 : decode cX7_knowersOf 1 = .ok (.istore_n 2, 1) := by decide +kernel
theorem dX7_knowersOf_2 : decode cX7_knowersOf 2 = .ok (.iconst 0, 1) := by decide +kernel
theorem dX7_knowersOf_3 : decode cX7_knowersOf 3 = .ok (.istore_n 3, 1) := by decide +kernel
theorem dX7_knowersOf_4 : decode cX7_knowersOf 4 = .ok (.iload_n 3, 1) := by decide +kernel
theorem dX7_knowersOf_5 : decode cX7_knowersOf 5 = .ok (.aload_n 0, 1) := by decide +kernel
theorem dX7_knowersOf_6 : decode cX7_knowersOf 6 = .ok (.getfield 37, 3) := by decide +kernel
theorem dX7_knowersOf_9 : decode cX7_knowersOf 9 = .ok (.if_icmp .ge 22, 3) := by decide +kernel
theorem dX7_knowersOf_12 : decode cX7_knowersOf 12 = .ok (.iload_n 2, 1) := by decide +kernel
theorem dX7_knowersOf_13 : decode cX7_knowersOf 13 = .ok (.aload_n 0, 1) := by decide +kernel
theorem dX7_knowersOf_14 : decode cX7_knowersOf 14 = .ok (.getfield 22, 3) := by decide +kernel
theorem dX7_knowersOf_17 : decode cX7_knowersOf 17 = .ok (.iload_n 3, 1) := by decide +kernel
theorem dX7_knowersOf_18 : decode cX7_knowersOf 18 = .ok (.iaload, 1) := by decide +kernel
theorem dX7_knowersOf_19 : decode cX7_knowersOf 19 = .ok (.iload_n 1, 1) := by decide +kernel
theorem dX7_knowersOf_20 : decode cX7_knowersOf 20 = .ok (.ishr, 1) := by decide +kernel
theorem dX7_knowersOf_21 : decode cX7_knowersOf 21 = .ok (.iconst 1, 1) := by decide +kernel
theorem dX7_knowersOf_22 : decode cX7_knowersOf 22 = .ok (.iand, 1) := by decide +kernel
theorem dX7_knowersOf_23 : decode cX7_knowersOf 23 = .ok (.iadd, 1) := by decide +kernel
theorem dX7_knowersOf_24 : decode cX7_knowersOf 24 = .ok (.istore_n 2, 1) := by decide +kernel
theorem dX7_knowersOf_25 : decode cX7_knowersOf 25 = .ok (.iinc 3 1, 3) := by decide +kernel
theorem dX7_knowersOf_28 : decode cX7_knowersOf 28 = .ok (.goto (-24), 3) := by decide +kernel
theorem dX7_knowersOf_31 : decode cX7_knowersOf 31 = .ok (.iload_n 2, 1) := by decide +kernel
theorem dX7_knowersOf_32 : decode cX7_knowersOf 32 = .ok (.ireturn, 1) := by decide +kernel
theorem dX7_changeOfFame_0 : decode cX7_changeOfFame 0 = .ok (.aload_n 0, 1) := by decide +kernel
theorem dX7_changeOfFame_1 : decode cX7_changeOfFame 1 = .ok (.getfield 9, 3) := by decide +kernel
theorem dX7_changeOfFame_4 : decode cX7_changeOfFame 4 = .ok (.aload_n 0, 1) := by decide +kernel
theorem dX7_changeOfFame_5 : decode cX7_changeOfFame 5 = .ok (.getfield 15, 3) := by decide +kernel
theorem dX7_changeOfFame_8 : decode cX7_changeOfFame 8 = .ok (.iload_n 1, 1) := by decide +kernel
theorem dX7_changeOfFame_9 : decode cX7_changeOfFame 9 = .ok (.iaload, 1) := by decide +kernel
theorem dX7_changeOfFame_10 : decode cX7_changeOfFame 10 = .ok (.aaload, 1) := by decide +kernel
theorem dX7_changeOfFame_11 : decode cX7_changeOfFame 11 = .ok (.aload_n 0, 1) := by decide +kernel
theorem dX7_changeOfFame_12 : decode cX7_changeOfFame 12 = .ok (.getfield 19, 3) := by decide +kernel
theorem dX7_changeOfFame_15 : decode cX7_changeOfFame 15 = .ok (.iload_n 1, 1) := by decide +kernel
theorem dX7_changeOfFame_16 : decode cX7_changeOfFame 16 = .ok (.iaload, 1) := by decide +kernel
theorem dX7_changeOfFame_17 : decode cX7_changeOfFame 17 = .ok (.aload_n 0, 1) := by decide +kernel
theorem dX7_changeOfFame_18 : decode cX7_changeOfFame 18 = .ok (.iload_n 2, 1) := by decide +kernel
theorem dX7_changeOfFame_19 : decode cX7_changeOfFame 19 = .ok (.invokevirtual 56, 3) := by decide +kernel
theorem dX7_changeOfFame_22 : decode cX7_changeOfFame 22 = .ok (.invokevirtual 59, 3) := by decide +kernel
theorem dX7_changeOfFame_25 : decode cX7_changeOfFame 25 = .ok (.ireturn, 1) := by decide +kernel
theorem dX7_goOn_0 : decode cX7_goOn 0 = .ok (.iconst 0, 1) := by decide +kernel
theorem dX7_goOn_1 : decode cX7_goOn 1 = .ok (.istore_n 2, 1) := by decide +kernel
theorem dX7_goOn_2 : decode cX7_goOn 2 = .ok (.iload_n 2, 1) := by decide +kernel
theorem dX7_goOn_3 : decode cX7_goOn 3 = .ok (.iload_n 1, 1) := by decide +kernel
theorem dX7_goOn_4 : decode cX7_goOn 4 = .ok (.if_icmp .ge 61, 3) := by decide +kernel
theorem dX7_goOn_7 : decode cX7_goOn 7 = .ok (.aload_n 0, 1) := by decide +kernel
theorem dX7_goOn_8 : decode cX7_goOn 8 = .ok (.dup, 1) := by decide +kernel
theorem dX7_goOn_9 : decode cX7_goOn 9 = .ok (.getfield 41, 3) := by decide +kernel
theorem dX7_goOn_12 : decode cX7_goOn 12 = .ok (.iconst 1, 1) := by decide +kernel
theorem dX7_goOn_13 : decode cX7_goOn 13 = .ok (.iadd, 1) := by decide +kernel
theorem dX7_goOn_14 : decode cX7_goOn 14 = .ok (.putfield 41, 3) := by decide +kernel
theorem dX7_goOn_17 : decode cX7_goOn 17 = .ok (.iconst 0, 1) := by decide +kernel
theorem dX7_goOn_18 : decode cX7_goOn 18 = .ok (.istore_n 3, 1) := by decide +kernel
theorem dX7_goOn_19 : decode cX7_goOn 19 = .ok (.iload_n 3, 1) := by decide +kernel
theorem dX7_goOn_20 : decode cX7_goOn 20 = .ok (.aload_n 0, 1) := by decide +kernel
theorem dX7_goOn_21 : decode cX7_goOn 21 = .ok (.getfield 37, 3) := by decide +kernel
theorem dX7_goOn_24 : decode cX7_goOn 24 = .ok (.if_icmp .ge 14, 3) := by decide +kernel
theorem dX7_goOn_27 : decode cX7_goOn 27 = .ok (.aload_n 0, 1) := by decide +kernel
theorem dX7_goOn_28 : decode cX7_goOn 28 = .ok (.iload_n 3, 1) := by decide +kernel
theorem dX7_goOn_29 : decode cX7_goOn 29 = .ok (.invokevirtual 65, 3) := by decide +kernel
theorem dX7_goOn_32 : decode cX7_goOn 32 = .ok (.iinc 3 1, 3) := by decide +kernel
theorem dX7_goOn_35 : decode cX7_goOn 35 = .ok (.goto (-16), 3) := by decide +kernel
theorem dX7_goOn_38 : decode cX7_goOn 38 = .ok (.iconst 0, 1) := by decide +kernel
theorem dX7_goOn_39 : decode cX7_goOn 39 = .ok (.istore_n 3, 1) := by decide +kernel
theorem dX7_goOn_40 : decode cX7_goOn 40 = .ok (.iload_n 3, 1) := by decide +kernel
theorem dX7_goOn_41 : decode cX7_goOn 41 = .ok (.aload_n 0, 1) := by decide +kernel
theorem dX7_goOn_42 : decode cX7_goOn 42 = .ok (.getfield 37, 3) := by decide +kernel
theorem dX7_goOn_45 : decode cX7_goOn 45 = .ok (.if_icmp .ge 14, 3) := by decide +kernel
theorem dX7_goOn_48 : decode cX7_goOn 48 = .ok (.aload_n 0, 1) := by decide +kernel
theorem dX7_goOn_49 : decode cX7_goOn 49 = .ok (.iload_n 3, 1) := by decide +kernel
theorem dX7_goOn_50 : decode cX7_goOn 50 = .ok (.invokevirtual 69, 3) := by decide +kernel
theorem dX7_goOn_53 : decode cX7_goOn 53 = .ok (.iinc 3 1, 3) := by decide +kernel
theorem dX7_goOn_56 : decode cX7_goOn 56 = .ok (.goto (-16), 3) := by decide +kernel
theorem dX7_goOn_59 : decode cX7_goOn 59 = .ok (.iinc 2 1, 3) := by decide +kernel
theorem dX7_goOn_62 : decode cX7_goOn 62 = .ok (.goto (-60), 3) := by decide +kernel
theorem dX7_goOn_65 : decode cX7_goOn 65 = .ok (.return_, 1) := by decide +kernel
theorem dX7_wearForAMonth_0 : decode cX7_wearForAMonth 0 = .ok (.aload_n 0, 1) := by decide +kernel
theorem dX7_wearForAMonth_1 : decode cX7_wearForAMonth 1 = .ok (.getfield 25, 3) := by decide +kernel
theorem dX7_wearForAMonth_4 : decode cX7_wearForAMonth 4 = .ok (.iload_n 1, 1) := by decide +kernel
theorem dX7_wearForAMonth_5 : decode cX7_wearForAMonth 5 = .ok (.iaload, 1) := by decide +kernel
theorem dX7_wearForAMonth_6 : decode cX7_wearForAMonth 6 = .ok (.istore_n 2, 1) := by decide +kernel
theorem dX7_wearForAMonth_7 : decode cX7_wearForAMonth 7 = .ok (.iload_n 2, 1) := by decide +kernel
theorem dX7_wearForAMonth_8 : decode cX7_wearForAMonth 8 = .ok (.bipush 9, 2) := by decide +kernel
theorem dX7_wearForAMonth_10 : decode cX7_wearForAMonth 10 = .ok (.if_icmp .eq 61, 3) := by decide +kernel
theorem dX7_wearForAMonth_13 : decode cX7_wearForAMonth 13 = .ok (.aload_n 0, 1) := by decide +kernel
theorem dX7_wearForAMonth_14 : decode cX7_wearForAMonth 14 = .ok (.getfield 28, 3) := by decide +kernel
theorem dX7_wearForAMonth_17 : decode cX7_wearForAMonth 17 = .ok (.iload_n 2, 1) := by decide +kernel
theorem dX7_wearForAMonth_18 : decode cX7_wearForAMonth 18 = .ok (.aload_n 0, 1) := by decide +kernel
theorem dX7_wearForAMonth_19 : decode cX7_wearForAMonth 19 = .ok (.getfield 28, 3) := by decide +kernel
theorem dX7_wearForAMonth_22 : decode cX7_wearForAMonth 22 = .ok (.iload_n 2, 1) := by decide +kernel
theorem dX7_wearForAMonth_23 : decode cX7_wearForAMonth 23 = .ok (.iaload, 1) := by decide +kernel
theorem dX7_wearForAMonth_24 : decode cX7_wearForAMonth 24 = .ok (.aload_n 0, 1) := by decide +kernel
theorem dX7_wearForAMonth_25 : decode cX7_wearForAMonth 25 = .ok (.iload_n 1, 1) := by decide +kernel
theorem dX7_wearForAMonth_26 : decode cX7_wearForAMonth 26 = .ok (.iload_n 2, 1) := by decide +kernel
theorem dX7_wearForAMonth_27 : decode cX7_wearForAMonth 27 = .ok (.invokevirtual 72, 3) := by decide +kernel
theorem dX7_wearForAMonth_30 : decode cX7_wearForAMonth 30 = .ok (.iadd, 1) := by decide +kernel
theorem dX7_wearForAMonth_31 : decode cX7_wearForAMonth 31 = .ok (.invokestatic 75, 3) := by decide +kernel
theorem dX7_wearForAMonth_34 : decode cX7_wearForAMonth 34 = .ok (.iastore, 1) := by decide +kernel
theorem dX7_wearForAMonth_35 : decode cX7_wearForAMonth 35 = .ok (.aload_n 0, 1) := by decide +kernel
theorem dX7_wearForAMonth_36 : decode cX7_wearForAMonth 36 = .ok (.getfield 31, 3) := by decide +kernel
theorem dX7_wearForAMonth_39 : decode cX7_wearForAMonth 39 = .ok (.iload_n 2, 1) := by decide +kernel
theorem dX7_wearForAMonth_40 : decode cX7_wearForAMonth 40 = .ok (.aload_n 0, 1) := by decide +kernel
theorem dX7_wearForAMonth_41 : decode cX7_wearForAMonth 41 = .ok (.getfield 31, 3) := by decide +kernel
theorem dX7_wearForAMonth_44 : decode cX7_wearForAMonth 44 = .ok (.iload_n 2, 1) := by decide +kernel
theorem dX7_wearForAMonth_45 : decode cX7_wearForAMonth 45 = .ok (.iaload, 1) := by decide +kernel
theorem dX7_wearForAMonth_46 : decode cX7_wearForAMonth 46 = .ok (.aload_n 0, 1) := by decide +kernel
theorem dX7_wearForAMonth_47 : decode cX7_wearForAMonth 47 = .ok (.getfield 9, 3) := by decide +kernel
theorem dX7_wearForAMonth_50 : decode cX7_wearForAMonth 50 = .ok (.aload_n 0, 1) := by decide +kernel
theorem dX7_wearForAMonth_51 : decode cX7_wearForAMonth 51 = .ok (.getfield 15, 3) := by decide +kernel
theorem dX7_wearForAMonth_54 : decode cX7_wearForAMonth 54 = .ok (.iload_n 1, 1) := by decide +kernel
theorem dX7_wearForAMonth_55 : decode cX7_wearForAMonth 55 = .ok (.iaload, 1) := by decide +kernel
theorem dX7_wearForAMonth_56 : decode cX7_wearForAMonth 56 = .ok (.aaload, 1) := by decide +kernel
theorem dX7_wearForAMonth_57 : decode cX7_wearForAMonth 57 = .ok (.aload_n 0, 1) := by decide +kernel
theorem dX7_wearForAMonth_58 : decode cX7_wearForAMonth 58 = .ok (.getfield 19, 3) := by decide +kernel
theorem dX7_wearForAMonth_61 : decode cX7_wearForAMonth 61 = .ok (.iload_n 1, 1) := by decide +kernel
theorem dX7_wearForAMonth_62 : decode cX7_wearForAMonth 62 = .ok (.iaload, 1) := by decide +kernel
theorem dX7_wearForAMonth_63 : decode cX7_wearForAMonth 63 = .ok (.invokevirtual 78, 3) := by decide +kernel
theorem dX7_wearForAMonth_66 : decode cX7_wearForAMonth 66 = .ok (.iadd, 1) := by decide +kernel
theorem dX7_wearForAMonth_67 : decode cX7_wearForAMonth 67 = .ok (.invokestatic 75, 3) := by decide +kernel
theorem dX7_wearForAMonth_70 : decode cX7_wearForAMonth 70 = .ok (.iastore, 1) := by decide +kernel
theorem dX7_wearForAMonth_71 : decode cX7_wearForAMonth 71 = .ok (.return_, 1) := by decide +kernel
theorem dX7_keepLentForAMonth_0 : decode cX7_keepLentForAMonth 0 = .ok (.aload_n 0, 1) := by decide +kernel
theorem dX7_keepLentForAMonth_1 : decode cX7_keepLentForAMonth 1 = .ok (.getfield 34, 3) := by decide +kernel
theorem dX7_keepLentForAMonth_4 : decode cX7_keepLentForAMonth 4 = .ok (.iload_n 1, 1) := by decide +kernel
theorem dX7_keepLentForAMonth_5 : decode cX7_keepLentForAMonth 5 = .ok (.iaload, 1) := by decide +kernel
theorem dX7_keepLentForAMonth_6 : decode cX7_keepLentForAMonth 6 = .ok (.bipush 12, 2) := by decide +kernel
theorem dX7_keepLentForAMonth_8 : decode cX7_keepLentForAMonth 8 = .ok (.if_icmp .lt 12, 3) := by decide +kernel
theorem dX7_keepLentForAMonth_11 : decode cX7_keepLentForAMonth 11 = .ok (.aload_n 0, 1) := by decide +kernel
theorem dX7_keepLentForAMonth_12 : decode cX7_keepLentForAMonth 12 = .ok (.iload_n 1, 1) := by decide +kernel
theorem dX7_keepLentForAMonth_13 : decode cX7_keepLentForAMonth 13 = .ok (.invokevirtual 81, 3) := by decide +kernel
theorem dX7_keepLentForAMonth_16 : decode cX7_keepLentForAMonth 16 = .ok (.pop, 1) := by decide +kernel
theorem dX7_keepLentForAMonth_17 : decode cX7_keepLentForAMonth 17 = .ok (.goto 21, 3) := by decide +kernel
theorem dX7_keepLentForAMonth_20 : decode cX7_keepLentForAMonth 20 = .ok (.aload_n 0, 1) := by decide +kernel
theorem dX7_keepLentForAMonth_21 : decode cX7_keepLentForAMonth 21 = .ok (.iload_n 1, 1) := by decide +kernel
theorem dX7_keepLentForAMonth_22 : decode cX7_keepLentForAMonth 22 = .ok (.invokevirtual 84, 3) := by decide +kernel
theorem dX7_keepLentForAMonth_25 : decode cX7_keepLentForAMonth 25 = .ok (.ifCond .eq 13, 3) := by decide +kernel
theorem dX7_keepLentForAMonth_28 : decode cX7_keepLentForAMonth 28 = .ok (.aload_n 0, 1) := by decide +kernel
theorem dX7_keepLentForAMonth_29 : decode cX7_keepLentForAMonth 29 = .ok (.getfield 34, 3) := by decide +kernel
theorem dX7_keepLentForAMonth_32 : decode cX7_keepLentForAMonth 32 = .ok (.iload_n 1, 1) := by decide +kernel
theorem dX7_keepLentForAMonth_33 : decode cX7_keepLentForAMonth 33 = .ok (.dup2, 1) := by decide +kernel
theorem dX7_keepLentForAMonth_34 : decode cX7_keepLentForAMonth 34 = .ok (.iaload, 1) := by decide +kernel
theorem dX7_keepLentForAMonth_35 : decode cX7_keepLentForAMonth 35 = .ok (.iconst 1, 1) := by decide +kernel
theorem dX7_keepLentForAMonth_36 : decode cX7_keepLentForAMonth 36 = .ok (.iadd, 1) := by decide +kernel
theorem dX7_keepLentForAMonth_37 : decode cX7_keepLentForAMonth 37 = .ok (.iastore, 1) := by decide +kernel
theorem dX7_keepLentForAMonth_38 : decode cX7_keepLentForAMonth 38 = .ok (.return_, 1) := by decide +kernel
theorem dX7_worthOf_0 : decode cX7_worthOf 0 = .ok (.aload_n 0, 1) := by decide +kernel
theorem dX7_worthOf_1 : decode cX7_worthOf 1 = .ok (.getfield 28, 3) := by decide +kernel
theorem dX7_worthOf_4 : decode cX7_worthOf 4 = .ok (.iload_n 1, 1) := by decide +kernel
theorem dX7_worthOf_5 : decode cX7_worthOf 5 = .ok (.iaload, 1) := by decide +kernel
theorem dX7_worthOf_6 : decode cX7_worthOf 6 = .ok (.aload_n 0, 1) := by decide +kernel
theorem dX7_worthOf_7 : decode cX7_worthOf 7 = .ok (.getfield 31, 3) := by decide +kernel
theorem dX7_worthOf_10 : decode cX7_worthOf 10 = .ok (.iload_n 1, 1) := by decide +kernel
theorem dX7_worthOf_11 : decode cX7_worthOf 11 = .ok (.iaload, 1) := by decide +kernel
theorem dX7_worthOf_12 : decode cX7_worthOf 12 = .ok (.isub, 1) := by decide +kernel
theorem dX7_worthOf_13 : decode cX7_worthOf 13 = .ok (.ireturn, 1) := by decide +kernel
theorem dX7_allFame_0 : decode cX7_allFame 0 = .ok (.aload_n 0, 1) := by decide +kernel
theorem dX7_allFame_1 : decode cX7_allFame 1 = .ok (.aload_n 0, 1) := by decide +kernel
theorem dX7_allFame_2 : decode cX7_allFame 2 = .ok (.getfield 28, 3) := by decide +kernel
theorem dX7_allFame_5 : decode cX7_allFame 5 = .ok (.invokevirtual 87, 3) := by decide +kernel
theorem dX7_allFame_8 : decode cX7_allFame 8 = .ok (.ireturn, 1) := by decide +kernel
theorem dX7_allScars_0 : decode cX7_allScars 0 = .ok (.aload_n 0, 1) := by decide +kernel
theorem dX7_allScars_1 : decode cX7_allScars 1 = .ok (.aload_n 0, 1) := by decide +kernel
theorem dX7_allScars_2 : decode cX7_allScars 2 = .ok (.getfield 31, 3) := by decide +kernel
theorem dX7_allScars_5 : decode cX7_allScars 5 = .ok (.invokevirtual 87, 3) := by decide +kernel
theorem dX7_allScars_8 : decode cX7_allScars 8 = .ok (.ireturn, 1) := by decide +kernel
theorem dX7_allWorths_0 : decode cX7_allWorths 0 = .ok (.aload_n 0, 1) := by decide +kernel
theorem dX7_allWorths_1 : decode cX7_allWorths 1 = .ok (.invokevirtual 91, 3) := by decide +kernel
theorem dX7_allWorths_4 : decode cX7_allWorths 4 = .ok (.aload_n 0, 1) := by decide +kernel
theorem dX7_allWorths_5 : decode cX7_allWorths 5 = .ok (.invokevirtual 95, 3) := by decide +kernel
theorem dX7_allWorths_8 : decode cX7_allWorths 8 = .ok (.isub, 1) := by decide +kernel
theorem dX7_allWorths_9 : decode cX7_allWorths 9 = .ok (.ireturn, 1) := by decide +kernel
theorem dX7_sumOf_0 : decode cX7_sumOf 0 = .ok (.iconst 0, 1) := by decide +kernel
theorem dX7_sumOf_1 : decode cX7_sumOf 1 = .ok (.istore_n 2, 1) := by decide +kernel
theorem dX7_sumOf_2 : decode cX7_sumOf 2 = .ok (.iconst 0, 1) := by decide +kernel
theorem dX7_sumOf_3 : decode cX7_sumOf 3 = .ok (.istore_n 3, 1) := by decide +kernel
theorem dX7_sumOf_4 : decode cX7_sumOf 4 = .ok (.iload_n 3, 1) := by decide +kernel
theorem dX7_sumOf_5 : decode cX7_sumOf 5 = .ok (.aload_n 0, 1) := by decide +kernel
theorem dX7_sumOf_6 : decode cX7_sumOf 6 = .ok (.getfield 37, 3) := by decide +kernel
theorem dX7_sumOf_9 : decode cX7_sumOf 9 = .ok (.if_icmp .ge 15, 3) := by decide +kernel
theorem dX7_sumOf_12 : decode cX7_sumOf 12 = .ok (.iload_n 2, 1) := by decide +kernel
theorem dX7_sumOf_13 : decode cX7_sumOf 13 = .ok (.aload_n 1, 1) := by decide +kernel
theorem dX7_sumOf_14 : decode cX7_sumOf 14 = .ok (.iload_n 3, 1) := by decide +kernel
theorem dX7_sumOf_15 : decode cX7_sumOf 15 = .ok (.iaload, 1) := by decide +kernel
theorem dX7_sumOf_16 : decode cX7_sumOf 16 = .ok (.iadd, 1) := by decide +kernel
theorem dX7_sumOf_17 : decode cX7_sumOf 17 = .ok (.istore_n 2, 1) := by decide +kernel
theorem dX7_sumOf_18 : decode cX7_sumOf 18 = .ok (.iinc 3 1, 3) := by decide +kernel
theorem dX7_sumOf_21 : decode cX7_sumOf 21 = .ok (.goto (-17), 3) := by decide +kernel
theorem dX7_sumOf_24 : decode cX7_sumOf 24 = .ok (.iload_n 2, 1) := by decide +kernel
theorem dX7_sumOf_25 : decode cX7_sumOf 25 = .ok (.ireturn, 1) := by decide +kernel
theorem dX7_lookAlike_0 : decode cX7_lookAlike 0 = .ok (.aload_n 0, 1) := by decide +kernel
theorem dX7_lookAlike_1 : decode cX7_lookAlike 1 = .ok (.getfield 28, 3) := by decide +kernel
theorem dX7_lookAlike_4 : decode cX7_lookAlike 4 = .ok (.iload_n 1, 1) := by decide +kernel
theorem dX7_lookAlike_5 : decode cX7_lookAlike 5 = .ok (.iaload, 1) := by decide +kernel
theorem dX7_lookAlike_6 : decode cX7_lookAlike 6 = .ok (.aload_n 0, 1) := by decide +kernel
theorem dX7_lookAlike_7 : decode cX7_lookAlike 7 = .ok (.getfield 28, 3) := by decide +kernel
theorem dX7_lookAlike_10 : decode cX7_lookAlike 10 = .ok (.iload_n 2, 1) := by decide +kernel
theorem dX7_lookAlike_11 : decode cX7_lookAlike 11 = .ok (.iaload, 1) := by decide +kernel
theorem dX7_lookAlike_12 : decode cX7_lookAlike 12 = .ok (.if_icmp .ne 22, 3) := by decide +kernel
theorem dX7_lookAlike_15 : decode cX7_lookAlike 15 = .ok (.aload_n 0, 1) := by decide +kernel
theorem dX7_lookAlike_16 : decode cX7_lookAlike 16 = .ok (.getfield 31, 3) := by decide +kernel
theorem dX7_lookAlike_19 : decode cX7_lookAlike 19 = .ok (.iload_n 1, 1) := by decide +kernel
theorem dX7_lookAlike_20 : decode cX7_lookAlike 20 = .ok (.iaload, 1) := by decide +kernel
theorem dX7_lookAlike_21 : decode cX7_lookAlike 21 = .ok (.aload_n 0, 1) := by decide +kernel
theorem dX7_lookAlike_22 : decode cX7_lookAlike 22 = .ok (.getfield 31, 3) := by decide +kernel
theorem dX7_lookAlike_25 : decode cX7_lookAlike 25 = .ok (.iload_n 2, 1) := by decide +kernel
theorem dX7_lookAlike_26 : decode cX7_lookAlike 26 = .ok (.iaload, 1) := by decide +kernel
theorem dX7_lookAlike_27 : decode cX7_lookAlike 27 = .ok (.if_icmp .ne 7, 3) := by decide +kernel
theorem dX7_lookAlike_30 : decode cX7_lookAlike 30 = .ok (.iconst 1, 1) := by decide +kernel
theorem dX7_lookAlike_31 : decode cX7_lookAlike 31 = .ok (.goto 4, 3) := by decide +kernel
theorem dX7_lookAlike_34 : decode cX7_lookAlike 34 = .ok (.iconst 0, 1) := by decide +kernel
theorem dX7_lookAlike_35 : decode cX7_lookAlike 35 = .ok (.ireturn, 1) := by decide +kernel
theorem dX7_faceWithoutFame_0 : decode cX7_faceWithoutFame 0 = .ok (.iconst 0, 1) := by decide +kernel
theorem dX7_faceWithoutFame_1 : decode cX7_faceWithoutFame 1 = .ok (.istore_n 1, 1) := by decide +kernel
theorem dX7_faceWithoutFame_2 : decode cX7_faceWithoutFame 2 = .ok (.iload_n 1, 1) := by decide +kernel
theorem dX7_faceWithoutFame_3 : decode cX7_faceWithoutFame 3 = .ok (.aload_n 0, 1) := by decide +kernel
theorem dX7_faceWithoutFame_4 : decode cX7_faceWithoutFame 4 = .ok (.getfield 37, 3) := by decide +kernel
theorem dX7_faceWithoutFame_7 : decode cX7_faceWithoutFame 7 = .ok (.if_icmp .ge 20, 3) := by decide +kernel
theorem dX7_faceWithoutFame_10 : decode cX7_faceWithoutFame 10 = .ok (.aload_n 0, 1) := by decide +kernel
theorem dX7_faceWithoutFame_11 : decode cX7_faceWithoutFame 11 = .ok (.getfield 28, 3) := by decide +kernel
theorem dX7_faceWithoutFame_14 : decode cX7_faceWithoutFame 14 = .ok (.iload_n 1, 1) := by decide +kernel
theorem dX7_faceWithoutFame_15 : decode cX7_faceWithoutFame 15 = .ok (.iaload, 1) := by decide +kernel
theorem dX7_faceWithoutFame_16 : decode cX7_faceWithoutFame 16 = .ok (.ifCond .ne 5, 3) := by decide +kernel
theorem dX7_faceWithoutFame_19 : decode cX7_faceWithoutFame 19 = .ok (.iload_n 1, 1) := by decide +kernel
theorem dX7_faceWithoutFame_20 : decode cX7_faceWithoutFame 20 = .ok (.ireturn, 1) := by decide +kernel
theorem dX7_faceWithoutFame_21 : decode cX7_faceWithoutFame 21 = .ok (.iinc 1 1, 3) := by decide +kernel
theorem dX7_faceWithoutFame_24 : decode cX7_faceWithoutFame 24 = .ok (.goto (-22), 3) := by decide +kernel
theorem dX7_faceWithoutFame_27 : decode cX7_faceWithoutFame 27 = .ok (.bipush (-9), 2) := by decide +kernel
theorem dX7_faceWithoutFame_29 : decode cX7_faceWithoutFame 29 = .ok (.ireturn, 1) := by decide +kernel
theorem dX7_allWearTheirOwn_0 : decode cX7_allWearTheirOwn 0 = .ok (.iconst 0, 1) := by decide +kernel
theorem dX7_allWearTheirOwn_1 : decode cX7_allWearTheirOwn 1 = .ok (.istore_n 1, 1) := by decide +kernel
theorem dX7_allWearTheirOwn_2 : decode cX7_allWearTheirOwn 2 = .ok (.iload_n 1, 1) := by decide +kernel
theorem dX7_allWearTheirOwn_3 : decode cX7_allWearTheirOwn 3 = .ok (.aload_n 0, 1) := by decide +kernel
theorem dX7_allWearTheirOwn_4 : decode cX7_allWearTheirOwn 4 = .ok (.getfield 37, 3) := by decide +kernel
theorem dX7_allWearTheirOwn_7 : decode cX7_allWearTheirOwn 7 = .ok (.if_icmp .ge 19, 3) := by decide +kernel
theorem dX7_allWearTheirOwn_10 : decode cX7_allWearTheirOwn 10 = .ok (.aload_n 0, 1) := by decide +kernel
theorem dX7_allWearTheirOwn_11 : decode cX7_allWearTheirOwn 11 = .ok (.iload_n 1, 1) := by decide +kernel
theorem dX7_allWearTheirOwn_12 : decode cX7_allWearTheirOwn 12 = .ok (.invokevirtual 44, 3) := by decide +kernel
theorem dX7_allWearTheirOwn_15 : decode cX7_allWearTheirOwn 15 = .ok (.ifCond .ne 5, 3) := by decide +kernel
theorem dX7_allWearTheirOwn_18 : decode cX7_allWearTheirOwn 18 = .ok (.iconst 0, 1) := by decide +kernel
theorem dX7_allWearTheirOwn_19 : decode cX7_allWearTheirOwn 19 = .ok (.ireturn, 1) := by decide +kernel
theorem dX7_allWearTheirOwn_20 : decode cX7_allWearTheirOwn 20 = .ok (.iinc 1 1, 3) := by decide +kernel
theorem dX7_allWearTheirOwn_23 : decode cX7_allWearTheirOwn 23 = .ok (.goto (-21), 3) := by decide +kernel
theorem dX7_allWearTheirOwn_26 : decode cX7_allWearTheirOwn 26 = .ok (.iconst 1, 1) := by decide +kernel
theorem dX7_allWearTheirOwn_27 : decode cX7_allWearTheirOwn 27 = .ok (.ireturn, 1) := by decide +kernel
theorem dX7_lentFaces_0 : decode cX7_lentFaces 0 = .ok (.iconst 0, 1) := by decide +kernel
theorem dX7_lentFaces_1 : decode cX7_lentFaces 1 = .ok (.istore_n 1, 1) := by decide +kernel
theorem dX7_lentFaces_2 : decode cX7_lentFaces 2 = .ok (.iconst 0, 1) := by decide +kernel
theorem dX7_lentFaces_3 : decode cX7_lentFaces 3 = .ok (.istore_n 2, 1) := by decide +kernel
theorem dX7_lentFaces_4 : decode cX7_lentFaces 4 = .ok (.iload_n 2, 1) := by decide +kernel
theorem dX7_lentFaces_5 : decode cX7_lentFaces 5 = .ok (.aload_n 0, 1) := by decide +kernel
theorem dX7_lentFaces_6 : decode cX7_lentFaces 6 = .ok (.getfield 37, 3) := by decide +kernel
theorem dX7_lentFaces_9 : decode cX7_lentFaces 9 = .ok (.if_icmp .ge 25, 3) := by decide +kernel
theorem dX7_lentFaces_12 : decode cX7_lentFaces 12 = .ok (.iload_n 1, 1) := by decide +kernel
theorem dX7_lentFaces_13 : decode cX7_lentFaces 13 = .ok (.aload_n 0, 1) := by decide +kernel
theorem dX7_lentFaces_14 : decode cX7_lentFaces 14 = .ok (.iload_n 2, 1) := by decide +kernel
theorem dX7_lentFaces_15 : decode cX7_lentFaces 15 = .ok (.invokevirtual 84, 3) := by decide +kernel
theorem dX7_lentFaces_18 : decode cX7_lentFaces 18 = .ok (.ifCond .eq 7, 3) := by decide +kernel
theorem dX7_lentFaces_21 : decode cX7_lentFaces 21 = .ok (.iconst 1, 1) := by decide +kernel
theorem dX7_lentFaces_22 : decode cX7_lentFaces 22 = .ok (.goto 4, 3) := by decide +kernel
theorem dX7_lentFaces_25 : decode cX7_lentFaces 25 = .ok (.iconst 0, 1) := by decide +kernel
theorem dX7_lentFaces_26 : decode cX7_lentFaces 26 = .ok (.iadd, 1) := by decide +kernel
theorem dX7_lentFaces_27 : decode cX7_lentFaces 27 = .ok (.istore_n 1, 1) := by decide +kernel
theorem dX7_lentFaces_28 : decode cX7_lentFaces 28 = .ok (.iinc 2 1, 3) := by decide +kernel
theorem dX7_lentFaces_31 : decode cX7_lentFaces 31 = .ok (.goto (-27), 3) := by decide +kernel
theorem dX7_lentFaces_34 : decode cX7_lentFaces 34 = .ok (.iload_n 1, 1) := by decide +kernel
theorem dX7_lentFaces_35 : decode cX7_lentFaces 35 = .ok (.ireturn, 1) := by decide +kernel
theorem dX7_wearersOfOthers_0 : decode cX7_wearersOfOthers 0 = .ok (.iconst 0, 1) := by decide +kernel
theorem dX7_wearersOfOthers_1 : decode cX7_wearersOfOthers 1 = .ok (.istore_n 1, 1) := by decide +kernel
theorem dX7_wearersOfOthers_2 : decode cX7_wearersOfOthers 2 = .ok (.iconst 0, 1) := by decide +kernel
theorem dX7_wearersOfOthers_3 : decode cX7_wearersOfOthers 3 = .ok (.istore_n 2, 1) := by decide +kernel
theorem dX7_wearersOfOthers_4 : decode cX7_wearersOfOthers 4 = .ok (.iload_n 2, 1) := by decide +kernel
theorem dX7_wearersOfOthers_5 : decode cX7_wearersOfOthers 5 = .ok (.aload_n 0, 1) := by decide +kernel
theorem dX7_wearersOfOthers_6 : decode cX7_wearersOfOthers 6 = .ok (.getfield 37, 3) := by decide +kernel
theorem dX7_wearersOfOthers_9 : decode cX7_wearersOfOthers 9 = .ok (.if_icmp .ge 36, 3) := by decide +kernel
theorem dX7_wearersOfOthers_12 : decode cX7_wearersOfOthers 12 = .ok (.iload_n 1, 1) := by decide +kernel
theorem dX7_wearersOfOthers_13 : decode cX7_wearersOfOthers 13 = .ok (.aload_n 0, 1) := by decide +kernel
theorem dX7_wearersOfOthers_14 : decode cX7_wearersOfOthers 14 = .ok (.getfield 25, 3) := by decide +kernel
theorem dX7_wearersOfOthers_17 : decode cX7_wearersOfOthers 17 = .ok (.iload_n 2, 1) := by decide +kernel
theorem dX7_wearersOfOthers_18 : decode cX7_wearersOfOthers 18 = .ok (.iaload, 1) := by decide +kernel
theorem dX7_wearersOfOthers_19 : decode cX7_wearersOfOthers 19 = .ok (.bipush 9, 2) := by decide +kernel
theorem dX7_wearersOfOthers_21 : decode cX7_wearersOfOthers 21 = .ok (.if_icmp .eq 15, 3) := by decide +kernel
theorem dX7_wearersOfOthers_24 : decode cX7_wearersOfOthers 24 = .ok (.aload_n 0, 1) := by decide +kernel
theorem dX7_wearersOfOthers_25 : decode cX7_wearersOfOthers 25 = .ok (.iload_n 2, 1) := by decide +kernel
theorem dX7_wearersOfOthers_26 : decode cX7_wearersOfOthers 26 = .ok (.invokevirtual 44, 3) := by decide +kernel
theorem dX7_wearersOfOthers_29 : decode cX7_wearersOfOthers 29 = .ok (.ifCond .ne 7, 3) := by decide +kernel
theorem dX7_wearersOfOthers_32 : decode cX7_wearersOfOthers 32 = .ok (.iconst 1, 1) := by decide +kernel
theorem dX7_wearersOfOthers_33 : decode cX7_wearersOfOthers 33 = .ok (.goto 4, 3) := by decide +kernel
theorem dX7_wearersOfOthers_36 : decode cX7_wearersOfOthers 36 = .ok (.iconst 0, 1) := by decide +kernel
theorem dX7_wearersOfOthers_37 : decode cX7_wearersOfOthers 37 = .ok (.iadd, 1) := by decide +kernel
theorem dX7_wearersOfOthers_38 : decode cX7_wearersOfOthers 38 = .ok (.istore_n 1, 1) := by decide +kernel
theorem dX7_wearersOfOthers_39 : decode cX7_wearersOfOthers 39 = .ok (.iinc 2 1, 3) := by decide +kernel
theorem dX7_wearersOfOthers_42 : decode cX7_wearersOfOthers 42 = .ok (.goto (-38), 3) := by decide +kernel
theorem dX7_wearersOfOthers_45 : decode cX7_wearersOfOthers 45 = .ok (.iload_n 1, 1) := by decide +kernel
theorem dX7_wearersOfOthers_46 : decode cX7_wearersOfOthers 46 = .ok (.ireturn, 1) := by decide +kernel
theorem dX7_plainWearers_0 : decode cX7_plainWearers 0 = .ok (.iconst 0, 1) := by decide +kernel
theorem dX7_plainWearers_1 : decode cX7_plainWearers 1 = .ok (.istore_n 1, 1) := by decide +kernel
theorem dX7_plainWearers_2 : decode cX7_plainWearers 2 = .ok (.iconst 0, 1) := by decide +kernel
theorem dX7_plainWearers_3 : decode cX7_plainWearers 3 = .ok (.istore_n 2, 1) := by decide +kernel
theorem dX7_plainWearers_4 : decode cX7_plainWearers 4 = .ok (.iload_n 2, 1) := by decide +kernel
theorem dX7_plainWearers_5 : decode cX7_plainWearers 5 = .ok (.aload_n 0, 1) := by decide +kernel
theorem dX7_plainWearers_6 : decode cX7_plainWearers 6 = .ok (.getfield 37, 3) := by decide +kernel
theorem dX7_plainWearers_9 : decode cX7_plainWearers 9 = .ok (.if_icmp .ge 30, 3) := by decide +kernel
theorem dX7_plainWearers_12 : decode cX7_plainWearers 12 = .ok (.iload_n 1, 1) := by decide +kernel
theorem dX7_plainWearers_13 : decode cX7_plainWearers 13 = .ok (.aload_n 0, 1) := by decide +kernel
theorem dX7_plainWearers_14 : decode cX7_plainWearers 14 = .ok (.getfield 25, 3) := by decide +kernel
theorem dX7_plainWearers_17 : decode cX7_plainWearers 17 = .ok (.iload_n 2, 1) := by decide +kernel
theorem dX7_plainWearers_18 : decode cX7_plainWearers 18 = .ok (.iaload, 1) := by decide +kernel
theorem dX7_plainWearers_19 : decode cX7_plainWearers 19 = .ok (.bipush 9, 2) := by decide +kernel
theorem dX7_plainWearers_21 : decode cX7_plainWearers 21 = .ok (.if_icmp .ne 9, 3) := by decide +kernel
theorem dX7_plainWearers_24 : decode cX7_plainWearers 24 = .ok (.iconst 1, 1) := by decide +kernel
theorem dX7_plainWearers_25 : decode cX7_plainWearers 25 = .ok (.iload_n 2, 1) := by decide +kernel
theorem dX7_plainWearers_26 : decode cX7_plainWearers 26 = .ok (.ishl, 1) := by decide +kernel
theorem dX7_plainWearers_27 : decode cX7_plainWearers 27 = .ok (.goto 4, 3) := by decide +kernel
theorem dX7_plainWearers_30 : decode cX7_plainWearers 30 = .ok (.iconst 0, 1) := by decide +kernel
theorem dX7_plainWearers_31 : decode cX7_plainWearers 31 = .ok (.ior, 1) := by decide +kernel
theorem dX7_plainWearers_32 : decode cX7_plainWearers 32 = .ok (.istore_n 1, 1) := by decide +kernel
theorem dX7_plainWearers_33 : decode cX7_plainWearers 33 = .ok (.iinc 2 1, 3) := by decide +kernel
theorem dX7_plainWearers_36 : decode cX7_plainWearers 36 = .ok (.goto (-32), 3) := by decide +kernel
theorem dX7_plainWearers_39 : decode cX7_plainWearers 39 = .ok (.iload_n 1, 1) := by decide +kernel
theorem dX7_plainWearers_40 : decode cX7_plainWearers 40 = .ok (.ireturn, 1) := by decide +kernel
theorem dX7_facesSeen_0 : decode cX7_facesSeen 0 = .ok (.iconst 0, 1) := by decide +kernel
theorem dX7_facesSeen_1 : decode cX7_facesSeen 1 = .ok (.istore_n 1, 1) := by decide +kernel
theorem dX7_facesSeen_2 : decode cX7_facesSeen 2 = .ok (.iconst 0, 1) := by decide +kernel
theorem dX7_facesSeen_3 : decode cX7_facesSeen 3 = .ok (.istore_n 2, 1) := by decide +kernel
theorem dX7_facesSeen_4 : decode cX7_facesSeen 4 = .ok (.iload_n 2, 1) := by decide +kernel
theorem dX7_facesSeen_5 : decode cX7_facesSeen 5 = .ok (.aload_n 0, 1) := by decide +kernel
theorem dX7_facesSeen_6 : decode cX7_facesSeen 6 = .ok (.getfield 37, 3) := by decide +kernel
theorem dX7_facesSeen_9 : decode cX7_facesSeen 9 = .ok (.if_icmp .ge 35, 3) := by decide +kernel
theorem dX7_facesSeen_12 : decode cX7_facesSeen 12 = .ok (.iload_n 1, 1) := by decide +kernel
theorem dX7_facesSeen_13 : decode cX7_facesSeen 13 = .ok (.aload_n 0, 1) := by decide +kernel
theorem dX7_facesSeen_14 : decode cX7_facesSeen 14 = .ok (.getfield 25, 3) := by decide +kernel
theorem dX7_facesSeen_17 : decode cX7_facesSeen 17 = .ok (.iload_n 2, 1) := by decide +kernel
theorem dX7_facesSeen_18 : decode cX7_facesSeen 18 = .ok (.iaload, 1) := by decide +kernel
theorem dX7_facesSeen_19 : decode cX7_facesSeen 19 = .ok (.bipush 9, 2) := by decide +kernel
theorem dX7_facesSeen_21 : decode cX7_facesSeen 21 = .ok (.if_icmp .eq 14, 3) := by decide +kernel
theorem dX7_facesSeen_24 : decode cX7_facesSeen 24 = .ok (.iconst 1, 1) := by decide +kernel
theorem dX7_facesSeen_25 : decode cX7_facesSeen 25 = .ok (.aload_n 0, 1) := by decide +kernel
theorem dX7_facesSeen_26 : decode cX7_facesSeen 26 = .ok (.getfield 25, 3) := by decide +kernel
theorem dX7_facesSeen_29 : decode cX7_facesSeen 29 = .ok (.iload_n 2, 1) := by decide +kernel
theorem dX7_facesSeen_30 : decode cX7_facesSeen 30 = .ok (.iaload, 1) := by decide +kernel
theorem dX7_facesSeen_31 : decode cX7_facesSeen 31 = .ok (.ishl, 1) := by decide +kernel
theorem dX7_facesSeen_32 : decode cX7_facesSeen 32 = .ok (.goto 4, 3) := by decide +kernel
theorem dX7_facesSeen_35 : decode cX7_facesSeen 35 = .ok (.iconst 0, 1) := by decide +kernel
theorem dX7_facesSeen_36 : decode cX7_facesSeen 36 = .ok (.ior, 1) := by decide +kernel
theorem dX7_facesSeen_37 : decode cX7_facesSeen 37 = .ok (.istore_n 1, 1) := by decide +kernel
theorem dX7_facesSeen_38 : decode cX7_facesSeen 38 = .ok (.iinc 2 1, 3) := by decide +kernel
theorem dX7_facesSeen_41 : decode cX7_facesSeen 41 = .ok (.goto (-37), 3) := by decide +kernel
theorem dX7_facesSeen_44 : decode cX7_facesSeen 44 = .ok (.iload_n 1, 1) := by decide +kernel
theorem dX7_facesSeen_45 : decode cX7_facesSeen 45 = .ok (.ireturn, 1) := by decide +kernel
theorem dX8_init_0 : decode cX8_init 0 = .ok (.aload_n 0, 1) := by decide +kernel
theorem dX8_init_1 : decode cX8_init 1 = .ok (.invokespecial 1, 3) := by decide +kernel
theorem dX8_init_4 : decode cX8_init 4 = .ok (.bipush 6, 2) := by decide +kernel
theorem dX8_init_6 : decode cX8_init 6 = .ok (.anewarray 7, 3) := by decide +kernel
theorem dX8_init_9 : decode cX8_init 9 = .ok (.dup, 1) := by decide +kernel
theorem dX8_init_10 : decode cX8_init 10 = .ok (.iconst 0, 1) := by decide +kernel
theorem dX8_init_11 : decode cX8_init 11 = .ok (.new 7, 3) := by decide +kernel
theorem dX8_init_14 : decode cX8_init 14 = .ok (.dup, 1) := by decide +kernel
theorem dX8_init_15 : decode cX8_init 15 = .ok (.invokespecial 9, 3) := by decide +kernel
theorem dX8_init_18 : decode cX8_init 18 = .ok (.aastore, 1) := by decide +kernel
theorem dX8_init_19 : decode cX8_init 19 = .ok (.dup, 1) := by decide +kernel
theorem dX8_init_20 : decode cX8_init 20 = .ok (.iconst 1, 1) := by decide +kernel
theorem dX8_init_21 : decode cX8_init 21 = .ok (.new 10, 3) := by decide +kernel
theorem dX8_init_24 : decode cX8_init 24 = .ok (.dup, 1) := by decide +kernel
theorem dX8_init_25 : decode cX8_init 25 = .ok (.invokespecial 12, 3) := by decide +kernel
theorem dX8_init_28 : decode cX8_init 28 = .ok (.aastore, 1) := by decide +kernel
theorem dX8_init_29 : decode cX8_init 29 = .ok (.dup, 1) := by decide +kernel
theorem dX8_init_30 : decode cX8_init 30 = .ok (.iconst 2, 1) := by decide +kernel
theorem dX8_init_31 : decode cX8_init 31 = .ok (.new 13, 3) := by decide +kernel
theorem dX8_init_34 : decode cX8_init 34 = .ok (.dup, 1) := by decide +kernel
theorem dX8_init_35 : decode cX8_init 35 = .ok (.invokespecial 15, 3) := by decide +kernel
theorem dX8_init_38 : decode cX8_init 38 = .ok (.aastore, 1) := by decide +kernel
theorem dX8_init_39 : decode cX8_init 39 = .ok (.dup, 1) := by decide +kernel
theorem dX8_init_40 : decode cX8_init 40 = .ok (.iconst 3, 1) := by decide +kernel
theorem dX8_init_41 : decode cX8_init 41 = .ok (.new 16, 3) := by decide +kernel
theorem dX8_init_44 : decode cX8_init 44 = .ok (.dup, 1) := by decide +kernel
theorem dX8_init_45 : decode cX8_init 45 = .ok (.invokespecial 18, 3) := by decide +kernel
theorem dX8_init_48 : decode cX8_init 48 = .ok (.aastore, 1) := by decide +kernel
theorem dX8_init_49 : decode cX8_init 49 = .ok (.dup, 1) := by decide +kernel
theorem dX8_init_50 : decode cX8_init 50 = .ok (.iconst 4, 1) := by decide +kernel
theorem dX8_init_51 : decode cX8_init 51 = .ok (.new 19, 3) := by decide +kernel
theorem dX8_init_54 : decode cX8_init 54 = .ok (.dup, 1) := by decide +kernel
theorem dX8_init_55 : decode cX8_init 55 = .ok (.invokespecial 21, 3) := by decide +kernel
theorem dX8_init_58 : decode cX8_init 58 = .ok (.aastore, 1) := by decide +kernel
theorem dX8_init_59 : decode cX8_init 59 = .ok (.dup, 1) := by decide +kernel
theorem dX8_init_60 : decode cX8_init 60 = .ok (.iconst 5, 1) := by decide +kernel
theorem dX8_init_61 : decode cX8_init 61 = .ok (.new 22, 3) := by decide +kernel
theorem dX8_init_64 : decode cX8_init 64 = .ok (.dup, 1) := by decide +kernel
theorem dX8_init_65 : decode cX8_init 65 = .ok (.invokespecial 24, 3) := by decide +kernel
theorem dX8_init_68 : decode cX8_init 68 = .ok (.aastore, 1) := by decide +kernel
theorem dX8_init_69 : decode cX8_init 69 = .ok (.astore_n 1, 1) := by decide +kernel
theorem dX8_init_70 : decode cX8_init 70 = .ok (.aload_n 0, 1) := by decide +kernel
theorem dX8_init_71 : decode cX8_init 71 = .ok (.new 25, 3) := by decide +kernel
theorem dX8_init_74 : decode cX8_init 74 = .ok (.dup, 1) := by decide +kernel
theorem dX8_init_75 : decode cX8_init 75 = .ok (.aload_n 1, 1) := by decide +kernel
theorem dX8_init_76 : decode cX8_init 76 = .ok (.invokespecial 27, 3) := by decide +kernel
theorem dX8_init_79 : decode cX8_init 79 = .ok (.putfield 30, 3) := by decide +kernel
theorem dX8_init_82 : decode cX8_init 82 = .ok (.aload_n 0, 1) := by decide +kernel
theorem dX8_init_83 : decode cX8_init 83 = .ok (.new 25, 3) := by decide +kernel
theorem dX8_init_86 : decode cX8_init 86 = .ok (.dup, 1) := by decide +kernel
theorem dX8_init_87 : decode cX8_init 87 = .ok (.aload_n 1, 1) := by decide +kernel
theorem dX8_init_88 : decode cX8_init 88 = .ok (.invokespecial 27, 3) := by decide +kernel
theorem dX8_init_91 : decode cX8_init 91 = .ok (.putfield 36, 3) := by decide +kernel
theorem dX8_init_94 : decode cX8_init 94 = .ok (.aload_n 0, 1) := by decide +kernel
theorem dX8_init_95 : decode cX8_init 95 = .ok (.new 25, 3) := by decide +kernel
theorem dX8_init_98 : decode cX8_init 98 = .ok (.dup, 1) := by decide +kernel
theorem dX8_init_99 : decode cX8_init 99 = .ok (.aload_n 1, 1) := by decide +kernel
theorem dX8_init_100 : decode cX8_init 100 = .ok (.invokespecial 27, 3) := by decide +kernel
theorem dX8_init_103 : decode cX8_init 103 = .ok (.putfield 39, 3) := by decide +kernel
theorem dX8_init_106 : decode cX8_init 106 = .ok (.aload_n 0, 1) := by decide +kernel
theorem dX8_init_107 : decode cX8_init 107 = .ok (.new 42, 3) := by decide +kernel
theorem dX8_init_110 : decode cX8_init 110 = .ok (.dup, 1) := by decide +kernel
theorem dX8_init_111 : decode cX8_init 111 = .ok (.invokespecial 44, 3) := by decide +kernel
theorem dX8_init_114 : decode cX8_init 114 = .ok (.putfield 45, 3) := by decide +kernel
theorem dX8_init_117 : decode cX8_init 117 = .ok (.aload_n 0, 1) := by decide +kernel
theorem dX8_init_118 : decode cX8_init 118 = .ok (.bipush 16, 2) := by decide +kernel
theorem dX8_init_120 : decode cX8_init 120 = .ok (.newarray .int, 2) := by decide +kernel
theorem dX8_init_122 : decode cX8_init 122 = .ok (.putfield 49, 3) := by decide +kernel
theorem dX8_init_125 : decode cX8_init 125 = .ok (.aload_n 0, 1) := by decide +kernel
theorem dX8_init_126 : decode cX8_init 126 = .ok (.bipush 7, 2) := by decide +kernel
theorem dX8_init_128 : decode cX8_init 128 = .ok (.newarray .int, 2) := by decide +kernel
theorem dX8_init_130 : decode cX8_init 130 = .ok (.putfield 53, 3) := by decide +kernel
theorem dX8_init_133 : decode cX8_init 133 = .ok (.aload_n 0, 1) := by decide +kernel
theorem dX8_init_134 : decode cX8_init 134 = .ok (.bipush 8, 2) := by decide +kernel
theorem dX8_init_136 : decode cX8_init 136 = .ok (.newarray .int, 2) := by decide +kernel
theorem dX8_init_138 : decode cX8_init 138 = .ok (.putfield 56, 3) := by decide +kernel
theorem dX8_init_141 : decode cX8_init 141 = .ok (.aload_n 0, 1) := by decide +kernel
theorem dX8_init_142 : decode cX8_init 142 = .ok (.iconst 4, 1) := by decide +kernel
theorem dX8_init_143 : decode cX8_init 143 = .ok (.newarray .int, 2) := by decide +kernel
theorem dX8_init_145 : decode cX8_init 145 = .ok (.putfield 59, 3) := by decide +kernel
theorem dX8_init_148 : decode cX8_init 148 = .ok (.aload_n 0, 1) := by decide +kernel
theorem dX8_init_149 : decode cX8_init 149 = .ok (.iconst 4, 1) := by decide +kernel
theorem dX8_init_150 : decode cX8_init 150 = .ok (.newarray .int, 2) := by decide +kernel
theorem dX8_init_152 : decode cX8_init 152 = .ok (.putfield 62, 3) := by decide +kernel
theorem dX8_init_155 : decode cX8_init 155 = .ok (.aload_n 0, 1) := by decide +kernel
theorem dX8_init_156 : decode cX8_init 156 = .ok (.iconst 0, 1) := by decide +kernel
theorem dX8_init_157 : decode cX8_init 157 = .ok (.putfield 65, 3) := by decide +kernel
theorem dX8_init_160 : decode cX8_init 160 = .ok (.aload_n 0, 1) := by decide +kernel
theorem dX8_init_161 : decode cX8_init 161 = .ok (.iconst 0, 1) := by decide +kernel
theorem dX8_init_162 : decode cX8_init 162 = .ok (.putfield 69, 3) := by decide +kernel
theorem dX8_init_165 : decode cX8_init 165 = .ok (.return_, 1) := by decide +kernel
theorem dX8_letter_0 : decode cX8_letter 0 = .ok (.iload_n 1, 1) := by decide +kernel
theorem dX8_letter_1 : decode cX8_letter 1 = .ok (.iconst 0, 1) := by decide +kernel
theorem dX8_letter_2 : decode cX8_letter 2 = .ok (.sipush 255, 3) := by decide +kernel
theorem dX8_letter_5 : decode cX8_letter 5 = .ok (.invokestatic 73, 3) := by decide +kernel
theorem dX8_letter_8 : decode cX8_letter 8 = .ok (.istore_n 2, 1) := by decide +kernel
theorem dX8_letter_9 : decode cX8_letter 9 = .ok (.iload_n 2, 1) := by decide +kernel
theorem dX8_letter_10 : decode cX8_letter 10 = .ok (.ifCond .eq 9, 3) := by decide +kernel
theorem dX8_letter_13 : decode cX8_letter 13 = .ok (.aload_n 0, 1) := by decide +kernel
theorem dX8_letter_14 : decode cX8_letter 14 = .ok (.iload_n 2, 1) := by decide +kernel
theorem dX8_letter_15 : decode cX8_letter 15 = .ok (.invokevirtual 77, 3) := by decide +kernel
theorem dX8_letter_18 : decode cX8_letter 18 = .ok (.ireturn, 1) := by decide +kernel
theorem dX8_letter_19 : decode cX8_letter 19 = .ok (.aload_n 0, 1) := by decide +kernel
theorem dX8_letter_20 : decode cX8_letter 20 = .ok (.getfield 45, 3) := by decide +kernel
theorem dX8_letter_23 : decode cX8_letter 23 = .ok (.iload_n 1, 1) := by decide +kernel
theorem dX8_letter_24 : decode cX8_letter 24 = .ok (.invokevirtual 81, 3) := by decide +kernel
theorem dX8_letter_27 : decode cX8_letter 27 = .ok (.ifCond .ne 10, 3) := by decide +kernel
theorem dX8_letter_30 : decode cX8_letter 30 = .ok (.aload_n 0, 1) := by decide +kernel
theorem dX8_letter_31 : decode cX8_letter 31 = .ok (.bipush (-6), 2) := by decide +kernel
theorem dX8_letter_33 : decode cX8_letter 33 = .ok (.invokevirtual 77, 3) := by decide +kernel
theorem dX8_letter_36 : decode cX8_letter 36 = .ok (.ireturn, 1) := by decide +kernel
theorem dX8_letter_37 : decode cX8_letter 37 = .ok (.aload_n 0, 1) := by decide +kernel
theorem dX8_letter_38 : decode cX8_letter 38 = .ok (.getfield 45, 3) := by decide +kernel
theorem dX8_letter_41 : decode cX8_letter 41 = .ok (.getfield 85, 3) := by decide +kernel
theorem dX8_letter_44 : decode cX8_letter 44 = .ok (.ireturn, 1) := by decide +kernel
theorem dX8_town_0 : decode cX8_town 0 = .ok (.aload_n 0, 1) := by decide +kernel
theorem dX8_town_1 : decode cX8_town 1 = .ok (.getfield 36, 3) := by decide +kernel
theorem dX8_town_4 : decode cX8_town 4 = .ok (.aload_n 0, 1) := by decide +kernel
theorem dX8_town_5 : decode cX8_town 5 = .ok (.getfield 30, 3) := by decide +kernel
theorem dX8_town_8 : decode cX8_town 8 = .ok (.invokevirtual 88, 3) := by decide +kernel
theorem dX8_town_11 : decode cX8_town 11 = .ok (.aload_n 0, 1) := by decide +kernel
theorem dX8_town_12 : decode cX8_town 12 = .ok (.getfield 45, 3) := by decide +kernel
theorem dX8_town_15 : decode cX8_town 15 = .ok (.aload_n 0, 1) := by decide +kernel
theorem dX8_town_16 : decode cX8_town 16 = .ok (.getfield 36, 3) := by decide +kernel
theorem dX8_town_19 : decode cX8_town 19 = .ok (.invokevirtual 92, 3) := by decide +kernel
theorem dX8_town_22 : decode cX8_town 22 = .ok (.istore_n 1, 1) := by decide +kernel
theorem dX8_town_23 : decode cX8_town 23 = .ok (.iload_n 1, 1) := by decide +kernel
theorem dX8_town_24 : decode cX8_town 24 = .ok (.ifCond .le 14, 3) := by decide +kernel
theorem dX8_town_27 : decode cX8_town 27 = .ok (.aload_n 0, 1) := by decide +kernel
theorem dX8_town_28 : decode cX8_town 28 = .ok (.getfield 30, 3) := by decide +kernel
theorem dX8_town_31 : decode cX8_town 31 = .ok (.aload_n 0, 1) := by decide +kernel
theorem dX8_town_32 : decode cX8_town 32 = .ok (.getfield 36, 3) := by decide +kernel
theorem dX8_town_35 : decode cX8_town 35 = .ok (.invokevirtual 88, 3) := by decide +kernel
theorem dX8_town_38 : decode cX8_town 38 = .ok (.aload_n 0, 1) := by decide +kernel
theorem dX8_town_39 : decode cX8_town 39 = .ok (.getfield 45, 3) := by decide +kernel
theorem dX8_town_42 : decode cX8_town 42 = .ok (.iconst 0, 1) := by decide +kernel
theorem dX8_town_43 : decode cX8_town 43 = .ok (.putfield 85, 3) := by decide +kernel
theorem dX8_town_46 : decode cX8_town 46 = .ok (.iload_n 1, 1) := by decide +kernel
theorem dX8_town_47 : decode cX8_town 47 = .ok (.ireturn, 1) := by decide +kernel
theorem dX8_person_0 : decode cX8_person 0 = .ok (.aload_n 0, 1) := by decide +kernel
theorem dX8_person_1 : decode cX8_person 1 = .ok (.iload_n 1, 1) := by decide +kernel
theorem dX8_person_2 : decode cX8_person 2 = .ok (.invokevirtual 96, 3) := by decide +kernel
theorem dX8_person_5 : decode cX8_person 5 = .ok (.iload_n 2, 1) := by decide +kernel
theorem dX8_person_6 : decode cX8_person 6 = .ok (.iconst 4, 1) := by decide +kernel
theorem dX8_person_7 : decode cX8_person 7 = .ok (.invokestatic 99, 3) := by decide +kernel
theorem dX8_person_10 : decode cX8_person 10 = .ok (.invokestatic 103, 3) := by decide +kernel
theorem dX8_person_13 : decode cX8_person 13 = .ok (.istore_n 3, 1) := by decide +kernel
theorem dX8_person_14 : decode cX8_person 14 = .ok (.iload_n 3, 1) := by decide +kernel
theorem dX8_person_15 : decode cX8_person 15 = .ok (.ifCond .eq 9, 3) := by decide +kernel
theorem dX8_person_18 : decode cX8_person 18 = .ok (.aload_n 0, 1) := by decide +kernel
theorem dX8_person_19 : decode cX8_person 19 = .ok (.iload_n 3, 1) := by decide +kernel
theorem dX8_person_20 : decode cX8_person 20 = .ok (.invokevirtual 77, 3) := by decide +kernel
theorem dX8_person_23 : decode cX8_person 23 = .ok (.ireturn, 1) := by decide +kernel
theorem dX8_person_24 : decode cX8_person 24 = .ok (.iload_n 2, 1) := by decide +kernel
theorem dX8_person_25 : decode cX8_person 25 = .ok (.tableswitch 57 0 2 #[27, 37, 47], 27) := by decide +kernel
theorem dX8_person_52 : decode cX8_person 52 = .ok (.aload_n 0, 1) := by decide +kernel
theorem dX8_person_53 : decode cX8_person 53 = .ok (.getfield 30, 3) := by decide +kernel
theorem dX8_person_56 : decode cX8_person 56 = .ok (.getfield 106, 3) := by decide +kernel
theorem dX8_person_59 : decode cX8_person 59 = .ok (.iload_n 1, 1) := by decide +kernel
theorem dX8_person_60 : decode cX8_person 60 = .ok (.iaload, 1) := by decide +kernel
theorem dX8_person_61 : decode cX8_person 61 = .ok (.ireturn, 1) := by decide +kernel
theorem dX8_person_62 : decode cX8_person 62 = .ok (.aload_n 0, 1) := by decide +kernel
theorem dX8_person_63 : decode cX8_person 63 = .ok (.getfield 30, 3) := by decide +kernel
theorem dX8_person_66 : decode cX8_person 66 = .ok (.getfield 109, 3) := by decide +kernel
theorem dX8_person_69 : decode cX8_person 69 = .ok (.iload_n 1, 1) := by decide +kernel
theorem dX8_person_70 : decode cX8_person 70 = .ok (.iaload, 1) := by decide +kernel
theorem dX8_person_71 : decode cX8_person 71 = .ok (.ireturn, 1) := by decide +kernel
theorem dX8_person_72 : decode cX8_person 72 = .ok (.aload_n 0, 1) := by decide +kernel
theorem dX8_person_73 : decode cX8_person 73 = .ok (.getfield 30, 3) := by decide +kernel
theorem dX8_person_76 : decode cX8_person 76 = .ok (.getfield 112, 3) := by decide +kernel
theorem dX8_person_79 : decode cX8_person 79 = .ok (.iload_n 1, 1) := by decide +kernel
theorem dX8_person_80 : decode cX8_person 80 = .ok (.iaload, 1) := by decide +kernel
theorem dX8_person_81 : decode cX8_person 81 = .ok (.ireturn, 1) := by decide +kernel
theorem dX8_person_82 : decode cX8_person 82 = .ok (.aload_n 0, 1) := by decide +kernel
theorem dX8_person_83 : decode cX8_person 83 = .ok (.getfield 30, 3) := by decide +kernel
theorem dX8_person_86 : decode cX8_person 86 = .ok (.getfield 115, 3) := by decide +kernel
theorem dX8_person_89 : decode cX8_person 89 = .ok (.iload_n 1, 1) := by decide +kernel
theorem dX8_person_90 : decode cX8_person 90 = .ok (.iaload, 1) := by decide +kernel
theorem dX8_person_91 : decode cX8_person 91 = .ok (.ireturn, 1) := by decide +kernel
theorem dX8_face_0 : decode cX8_face 0 = .ok (.aload_n 0, 1) := by decide +kernel
theorem dX8_face_1 : decode cX8_face 1 = .ok (.iload_n 1, 1) := by decide +kernel
theorem dX8_face_2 : decode cX8_face 2 = .ok (.invokevirtual 96, 3) := by decide +kernel
theorem dX8_face_5 : decode cX8_face 5 = .ok (.iload_n 2, 1) := by decide +kernel
theorem dX8_face_6 : decode cX8_face 6 = .ok (.iconst 4, 1) := by decide +kernel
theorem dX8_face_7 : decode cX8_face 7 = .ok (.invokestatic 99, 3) := by decide +kernel
theorem dX8_face_10 : decode cX8_face 10 = .ok (.invokestatic 103, 3) := by decide +kernel
theorem dX8_face_13 : decode cX8_face 13 = .ok (.istore_n 3, 1) := by decide +kernel
theorem dX8_face_14 : decode cX8_face 14 = .ok (.iload_n 3, 1) := by decide +kernel
theorem dX8_face_15 : decode cX8_face 15 = .ok (.ifCond .eq 9, 3) := by decide +kernel
theorem dX8_face_18 : decode cX8_face 18 = .ok (.aload_n 0, 1) := by decide +kernel
theorem dX8_face_19 : decode cX8_face 19 = .ok (.iload_n 3, 1) := by decide +kernel
theorem dX8_face_20 : decode cX8_face 20 = .ok (.invokevirtual 77, 3) := by decide +kernel
theorem dX8_face_23 : decode cX8_face 23 = .ok (.ireturn, 1) := by decide +kernel
theorem dX8_face_24 : decode cX8_face 24 = .ok (.aload_n 0, 1) := by decide +kernel
theorem dX8_face_25 : decode cX8_face 25 = .ok (.getfield 30, 3) := by decide +kernel
theorem dX8_face_28 : decode cX8_face 28 = .ok (.iload_n 1, 1) := by decide +kernel
theorem dX8_face_29 : decode cX8_face 29 = .ok (.iload_n 2, 1) := by decide +kernel
theorem dX8_face_30 : decode cX8_face 30 = .ok (.invokevirtual 118, 3) := by decide +kernel
theorem dX8_face_33 : decode cX8_face 33 = .ok (.ireturn, 1) := by decide +kernel
theorem dX8_worth_0 : decode cX8_worth 0 = .ok (.aload_n 0, 1) := by decide +kernel
theorem dX8_worth_1 : decode cX8_worth 1 = .ok (.iload_n 1, 1) := by decide +kernel
theorem dX8_worth_2 : decode cX8_worth 2 = .ok (.invokevirtual 96, 3) := by decide +kernel
theorem dX8_worth_5 : decode cX8_worth 5 = .ok (.istore_n 2, 1) := by decide +kernel
theorem dX8_worth_6 : decode cX8_worth 6 = .ok (.iload_n 2, 1) := by decide +kernel
theorem dX8_worth_7 : decode cX8_worth 7 = .ok (.ifCond .eq 9, 3) := by decide +kernel
theorem dX8_worth_10 : decode cX8_worth 10 = .ok (.aload_n 0, 1) := by decide +kernel
theorem dX8_worth_11 : decode cX8_worth 11 = .ok (.iload_n 2, 1) := by decide +kernel
theorem dX8_worth_12 : decode cX8_worth 12 = .ok (.invokevirtual 121, 3) := by decide +kernel
theorem dX8_worth_15 : decode cX8_worth 15 = .ok (.ireturn, 1) := by decide +kernel
theorem dX8_worth_16 : decode cX8_worth 16 = .ok (.aload_n 0, 1) := by decide +kernel
theorem dX8_worth_17 : decode cX8_worth 17 = .ok (.getfield 30, 3) := by decide +kernel
theorem dX8_worth_20 : decode cX8_worth 20 = .ok (.iload_n 1, 1) := by decide +kernel
theorem dX8_worth_21 : decode cX8_worth 21 = .ok (.invokevirtual 124, 3) := by decide +kernel
theorem dX8_worth_24 : decode cX8_worth 24 = .ok (.ireturn, 1) := by decide +kernel
theorem dX8_lends_0 : decode cX8_lends 0 = .ok (.aload_n 0, 1) := by decide +kernel
theorem dX8_lends_1 : decode cX8_lends 1 = .ok (.iload_n 1, 1) := by decide +kernel
theorem dX8_lends_2 : decode cX8_lends 2 = .ok (.iload_n 2, 1) := by decide +kernel
theorem dX8_lends_3 : decode cX8_lends 3 = .ok (.invokevirtual 127, 3) := by decide +kernel
theorem dX8_lends_6 : decode cX8_lends 6 = .ok (.istore_n 3, 1) := by decide +kernel
theorem dX8_lends_7 : decode cX8_lends 7 = .ok (.iload_n 3, 1) := by decide +kernel
theorem dX8_lends_8 : decode cX8_lends 8 = .ok (.ifCond .eq 9, 3) := by decide +kernel
theorem dX8_lends_11 : decode cX8_lends 11 = .ok (.aload_n 0, 1) := by decide +kernel
theorem dX8_lends_12 : decode cX8_lends 12 = .ok (.iload_n 3, 1) := by decide +kernel
theorem dX8_lends_13 : decode cX8_lends 13 = .ok (.invokevirtual 77, 3) := by decide +kernel
theorem dX8_lends_16 : decode cX8_lends 16 = .ok (.ireturn, 1) := by decide +kernel
theorem dX8_lends_17 : decode cX8_lends 17 = .ok (.aload_n 0, 1) := by decide +kernel
theorem dX8_lends_18 : decode cX8_lends 18 = .ok (.getfield 30, 3) := by decide +kernel
theorem dX8_lends_21 : decode cX8_lends 21 = .ok (.iload_n 1, 1) := by decide +kernel
theorem dX8_lends_22 : decode cX8_lends 22 = .ok (.iload_n 2, 1) := by decide +kernel
theorem dX8_lends_23 : decode cX8_lends 23 = .ok (.invokevirtual 130, 3) := by decide +kernel
theorem dX8_lends_26 : decode cX8_lends 26 = .ok (.ifCond .ne 10, 3) := by decide +kernel
theorem dX8_lends_29 : decode cX8_lends 29 = .ok (.aload_n 0, 1) := by decide +kernel
theorem dX8_lends_30 : decode cX8_lends 30 = .ok (.bipush (-3), 2) := by decide +kernel
theorem dX8_lends_32 : decode cX8_lends 32 = .ok (.invokevirtual 77, 3) := by decide +kernel
theorem dX8_lends_35 : decode cX8_lends 35 = .ok (.ireturn, 1) := by decide +kernel
theorem dX8_lends_36 : decode cX8_lends 36 = .ok (.aload_n 0, 1) := by decide +kernel
theorem dX8_lends_37 : decode cX8_lends 37 = .ok (.getfield 30, 3) := by decide +kernel
theorem dX8_lends_40 : decode cX8_lends 40 = .ok (.iload_n 1, 1) := by decide +kernel
theorem dX8_lends_41 : decode cX8_lends 41 = .ok (.iload_n 2, 1) := by decide +kernel
theorem dX8_lends_42 : decode cX8_lends 42 = .ok (.invokevirtual 134, 3) := by decide +kernel
theorem dX8_lends_45 : decode cX8_lends 45 = .ok (.aload_n 0, 1) := by decide +kernel
theorem dX8_lends_46 : decode cX8_lends 46 = .ok (.getfield 30, 3) := by decide +kernel
theorem dX8_lends_49 : decode cX8_lends 49 = .ok (.invokevirtual 138, 3) := by decide +kernel
theorem dX8_lends_52 : decode cX8_lends 52 = .ok (.ireturn, 1) := by decide +kernel
theorem dX8_back_0 : decode cX8_back 0 = .ok (.aload_n 0, 1) := by decide +kernel
theorem dX8_back_1 : decode cX8_back 1 = .ok (.iload_n 1, 1) := by decide +kernel
theorem dX8_back_2 : decode cX8_back 2 = .ok (.invokevirtual 96, 3) := by decide +kernel
theorem dX8_back_5 : decode cX8_back 5 = .ok (.istore_n 2, 1) := by decide +kernel
theorem dX8_back_6 : decode cX8_back 6 = .ok (.iload_n 2, 1) := by decide +kernel
theorem dX8_back_7 : decode cX8_back 7 = .ok (.ifCond .eq 9, 3) := by decide +kernel
theorem dX8_back_10 : decode cX8_back 10 = .ok (.aload_n 0, 1) := by decide +kernel
theorem dX8_back_11 : decode cX8_back 11 = .ok (.iload_n 2, 1) := by decide +kernel
theorem dX8_back_12 : decode cX8_back 12 = .ok (.invokevirtual 77, 3) := by decide +kernel
theorem dX8_back_15 : decode cX8_back 15 = .ok (.ireturn, 1) := by decide +kernel
theorem dX8_back_16 : decode cX8_back 16 = .ok (.aload_n 0, 1) := by decide +kernel
theorem dX8_back_17 : decode cX8_back 17 = .ok (.getfield 30, 3) := by decide +kernel
theorem dX8_back_20 : decode cX8_back 20 = .ok (.iload_n 1, 1) := by decide +kernel
theorem dX8_back_21 : decode cX8_back 21 = .ok (.invokevirtual 142, 3) := by decide +kernel
theorem dX8_back_24 : decode cX8_back 24 = .ok (.ifCond .ne 10, 3) := by decide +kernel
theorem dX8_back_27 : decode cX8_back 27 = .ok (.aload_n 0, 1) := by decide +kernel
theorem dX8_back_28 : decode cX8_back 28 = .ok (.bipush (-3), 2) := by decide +kernel
theorem dX8_back_30 : decode cX8_back 30 = .ok (.invokevirtual 77, 3) := by decide +kernel
theorem dX8_back_33 : decode cX8_back 33 = .ok (.ireturn, 1) := by decide +kernel
theorem dX8_back_34 : decode cX8_back 34 = .ok (.aload_n 0, 1) := by decide +kernel
theorem dX8_back_35 : decode cX8_back 35 = .ok (.getfield 30, 3) := by decide +kernel
theorem dX8_back_38 : decode cX8_back 38 = .ok (.iload_n 1, 1) := by decide +kernel
theorem dX8_back_39 : decode cX8_back 39 = .ok (.invokevirtual 145, 3) := by decide +kernel
theorem dX8_back_42 : decode cX8_back 42 = .ok (.ireturn, 1) := by decide +kernel
theorem dX8_learns_0 : decode cX8_learns 0 = .ok (.aload_n 0, 1) := by decide +kernel
theorem dX8_learns_1 : decode cX8_learns 1 = .ok (.iload_n 1, 1) := by decide +kernel
theorem dX8_learns_2 : decode cX8_learns 2 = .ok (.invokevirtual 96, 3) := by decide +kernel
theorem dX8_learns_5 : decode cX8_learns 5 = .ok (.aload_n 0, 1) := by decide +kernel
theorem dX8_learns_6 : decode cX8_learns 6 = .ok (.iload_n 2, 1) := by decide +kernel
theorem dX8_learns_7 : decode cX8_learns 7 = .ok (.invokevirtual 96, 3) := by decide +kernel
theorem dX8_learns_10 : decode cX8_learns 10 = .ok (.invokestatic 103, 3) := by decide +kernel
theorem dX8_learns_13 : decode cX8_learns 13 = .ok (.istore_n 3, 1) := by decide +kernel
theorem dX8_learns_14 : decode cX8_learns 14 = .ok (.iload_n 3, 1) := by decide +kernel
theorem dX8_learns_15 : decode cX8_learns 15 = .ok (.ifCond .eq 9, 3) := by decide +kernel
theorem dX8_learns_18 : decode cX8_learns 18 = .ok (.aload_n 0, 1) := by decide +kernel
theorem dX8_learns_19 : decode cX8_learns 19 = .ok (.iload_n 3, 1) := by decide +kernel
theorem dX8_learns_20 : decode cX8_learns 20 = .ok (.invokevirtual 77, 3) := by decide +kernel
theorem dX8_learns_23 : decode cX8_learns 23 = .ok (.ireturn, 1) := by decide +kernel
theorem dX8_learns_24 : decode cX8_learns 24 = .ok (.aload_n 0, 1) := by decide +kernel
theorem dX8_learns_25 : decode cX8_learns 25 = .ok (.getfield 30, 3) := by decide +kernel
theorem dX8_learns_28 : decode cX8_learns 28 = .ok (.iload_n 1, 1) := by decide +kernel
theorem dX8_learns_29 : decode cX8_learns 29 = .ok (.iload_n 2, 1) := by decide +kernel
theorem dX8_learns_30 : decode cX8_learns 30 = .ok (.invokevirtual 148, 3) := by decide +kernel
theorem dX8_learns_33 : decode cX8_learns 33 = .ok (.aload_n 0, 1) := by decide +kernel
theorem dX8_learns_34 : decode cX8_learns 34 = .ok (.getfield 30, 3) := by decide +kernel
theorem dX8_learns_37 : decode cX8_learns 37 = .ok (.iload_n 1, 1) := by decide +kernel
theorem dX8_learns_38 : decode cX8_learns 38 = .ok (.iload_n 2, 1) := by decide +kernel
theorem dX8_learns_39 : decode cX8_learns 39 = .ok (.invokevirtual 151, 3) := by decide +kernel
theorem dX8_learns_42 : decode cX8_learns 42 = .ok (.ifCond .eq 7, 3) := by decide +kernel
theorem dX8_learns_45 : decode cX8_learns 45 = .ok (.iconst 1, 1) := by decide +kernel
theorem dX8_learns_46 : decode cX8_learns 46 = .ok (.goto 4, 3) := by decide +kernel
theorem dX8_learns_49 : decode cX8_learns 49 = .ok (.iconst 0, 1) := by decide +kernel
theorem dX8_learns_50 : decode cX8_learns 50 = .ok (.ireturn, 1) := by decide +kernel
theorem dX8_becomes_0 : decode cX8_becomes 0 = .ok (.aload_n 0, 1) := by decide +kernel
theorem dX8_becomes_1 : decode cX8_becomes 1 = .ok (.iload_n 1, 1) := by decide +kernel
theorem dX8_becomes_2 : decode cX8_becomes 2 = .ok (.invokevirtual 96, 3) := by decide +kernel
theorem dX8_becomes_5 : decode cX8_becomes 5 = .ok (.iload_n 2, 1) := by decide +kernel
theorem dX8_becomes_6 : decode cX8_becomes 6 = .ok (.iconst 2, 1) := by decide +kernel
theorem dX8_becomes_7 : decode cX8_becomes 7 = .ok (.invokestatic 99, 3) := by decide +kernel
theorem dX8_becomes_10 : decode cX8_becomes 10 = .ok (.iload_n 3, 1) := by decide +kernel
theorem dX8_becomes_11 : decode cX8_becomes 11 = .ok (.iconst 0, 1) := by decide +kernel
theorem dX8_becomes_12 : decode cX8_becomes 12 = .ok (.bipush 99, 2) := by decide +kernel
theorem dX8_becomes_14 : decode cX8_becomes 14 = .ok (.invokestatic 73, 3) := by decide +kernel
theorem dX8_becomes_17 : decode cX8_becomes 17 = .ok (.invokestatic 154, 3) := by decide +kernel
theorem dX8_becomes_20 : decode cX8_becomes 20 = .ok (.istore 4, 2) := by decide +kernel
theorem dX8_becomes_22 : decode cX8_becomes 22 = .ok (.iload 4, 2) := by decide +kernel
theorem dX8_becomes_24 : decode cX8_becomes 24 = .ok (.ifCond .eq 10, 3) := by decide +kernel
theorem dX8_becomes_27 : decode cX8_becomes 27 = .ok (.aload_n 0, 1) := by decide +kernel
theorem dX8_becomes_28 : decode cX8_becomes 28 = .ok (.iload 4, 2) := by decide +kernel
theorem dX8_becomes_30 : decode cX8_becomes 30 = .ok (.invokevirtual 77, 3) := by decide +kernel
theorem dX8_becomes_33 : decode cX8_becomes 33 = .ok (.ireturn, 1) := by decide +kernel
theorem dX8_becomes_34 : decode cX8_becomes 34 = .ok (.iload_n 2, 1) := by decide +kernel
theorem dX8_becomes_35 : decode cX8_becomes 35 = .ok (.ifCond .ne 13, 3) := by decide +kernel
theorem dX8_becomes_38 : decode cX8_becomes 38 = .ok (.aload_n 0, 1) := by decide +kernel
theorem dX8_becomes_39 : decode cX8_becomes 39 = .ok (.getfield 30, 3) := by decide +kernel
theorem dX8_becomes_42 : decode cX8_becomes 42 = .ok (.getfield 157, 3) := by decide +kernel
theorem dX8_becomes_45 : decode cX8_becomes 45 = .ok (.goto 10, 3) := by decide +kernel
theorem dX8_becomes_48 : decode cX8_becomes 48 = .ok (.aload_n 0, 1) := by decide +kernel
theorem dX8_becomes_49 : decode cX8_becomes 49 = .ok (.getfield 30, 3) := by decide +kernel
theorem dX8_becomes_52 : decode cX8_becomes 52 = .ok (.getfield 160, 3) := by decide +kernel
theorem dX8_becomes_55 : decode cX8_becomes 55 = .ok (.astore 5, 2) := by decide +kernel
theorem dX8_becomes_57 : decode cX8_becomes 57 = .ok (.aload 5, 2) := by decide +kernel
theorem dX8_becomes_59 : decode cX8_becomes 59 = .ok (.iload_n 1, 1) := by decide +kernel
theorem dX8_becomes_60 : decode cX8_becomes 60 = .ok (.iaload, 1) := by decide +kernel
theorem dX8_becomes_61 : decode cX8_becomes 61 = .ok (.istore 6, 2) := by decide +kernel
theorem dX8_becomes_63 : decode cX8_becomes 63 = .ok (.aload 5, 2) := by decide +kernel
theorem dX8_becomes_65 : decode cX8_becomes 65 = .ok (.iload_n 1, 1) := by decide +kernel
theorem dX8_becomes_66 : decode cX8_becomes 66 = .ok (.iload_n 3, 1) := by decide +kernel
theorem dX8_becomes_67 : decode cX8_becomes 67 = .ok (.iastore, 1) := by decide +kernel
theorem dX8_becomes_68 : decode cX8_becomes 68 = .ok (.iload 6, 2) := by decide +kernel
theorem dX8_becomes_70 : decode cX8_becomes 70 = .ok (.ireturn, 1) := by decide +kernel
theorem dX8_turn_0 : decode cX8_turn 0 = .ok (.aload_n 0, 1) := by decide +kernel
theorem dX8_turn_1 : decode cX8_turn 1 = .ok (.iload_n 1, 1) := by decide +kernel
theorem dX8_turn_2 : decode cX8_turn 2 = .ok (.invokevirtual 96, 3) := by decide +kernel
theorem dX8_turn_5 : decode cX8_turn 5 = .ok (.iload_n 2, 1) := by decide +kernel
theorem dX8_turn_6 : decode cX8_turn 6 = .ok (.bipush 6, 2) := by decide +kernel
theorem dX8_turn_8 : decode cX8_turn 8 = .ok (.invokestatic 99, 3) := by decide +kernel
theorem dX8_turn_11 : decode cX8_turn 11 = .ok (.iload_n 3, 1) := by decide +kernel
theorem dX8_turn_12 : decode cX8_turn 12 = .ok (.iconst 0, 1) := by decide +kernel
theorem dX8_turn_13 : decode cX8_turn 13 = .ok (.bipush 9, 2) := by decide +kernel
theorem dX8_turn_15 : decode cX8_turn 15 = .ok (.invokestatic 73, 3) := by decide +kernel
theorem dX8_turn_18 : decode cX8_turn 18 = .ok (.invokestatic 154, 3) := by decide +kernel
theorem dX8_turn_21 : decode cX8_turn 21 = .ok (.istore 4, 2) := by decide +kernel
theorem dX8_turn_23 : decode cX8_turn 23 = .ok (.iload 4, 2) := by decide +kernel
theorem dX8_turn_25 : decode cX8_turn 25 = .ok (.ifCond .eq 10, 3) := by decide +kernel
theorem dX8_turn_28 : decode cX8_turn 28 = .ok (.aload_n 0, 1) := by decide +kernel
theorem dX8_turn_29 : decode cX8_turn 29 = .ok (.iload 4, 2) := by decide +kernel
theorem dX8_turn_31 : decode cX8_turn 31 = .ok (.invokevirtual 77, 3) := by decide +kernel
theorem dX8_turn_34 : decode cX8_turn 34 = .ok (.ireturn, 1) := by decide +kernel
theorem dX8_turn_35 : decode cX8_turn 35 = .ok (.bipush 10, 2) := by decide +kernel
theorem dX8_turn_37 : decode cX8_turn 37 = .ok (.aload_n 0, 1) := by decide +kernel
theorem dX8_turn_38 : decode cX8_turn 38 = .ok (.getfield 30, 3) := by decide +kernel
theorem dX8_turn_41 : decode cX8_turn 41 = .ok (.getfield 106, 3) := by decide +kernel
theorem dX8_turn_44 : decode cX8_turn 44 = .ok (.iload_n 1, 1) := by decide +kernel
theorem dX8_turn_45 : decode cX8_turn 45 = .ok (.iaload, 1) := by decide +kernel
theorem dX8_turn_46 : decode cX8_turn 46 = .ok (.imul, 1) := by decide +kernel
theorem dX8_turn_47 : decode cX8_turn 47 = .ok (.aload_n 0, 1) := by decide +kernel
theorem dX8_turn_48 : decode cX8_turn 48 = .ok (.getfield 30, 3) := by decide +kernel
theorem dX8_turn_51 : decode cX8_turn 51 = .ok (.getfield 109, 3) := by decide +kernel
theorem dX8_turn_54 : decode cX8_turn 54 = .ok (.iload_n 1, 1) := by decide +kernel
theorem dX8_turn_55 : decode cX8_turn 55 = .ok (.iaload, 1) := by decide +kernel
theorem dX8_turn_56 : decode cX8_turn 56 = .ok (.iadd, 1) := by decide +kernel
theorem dX8_turn_57 : decode cX8_turn 57 = .ok (.istore 5, 2) := by decide +kernel
theorem dX8_turn_59 : decode cX8_turn 59 = .ok (.aload_n 0, 1) := by decide +kernel
theorem dX8_turn_60 : decode cX8_turn 60 = .ok (.getfield 30, 3) := by decide +kernel
theorem dX8_turn_63 : decode cX8_turn 63 = .ok (.getfield 106, 3) := by decide +kernel
theorem dX8_turn_66 : decode cX8_turn 66 = .ok (.iload_n 1, 1) := by decide +kernel
theorem dX8_turn_67 : decode cX8_turn 67 = .ok (.iload_n 2, 1) := by decide +kernel
theorem dX8_turn_68 : decode cX8_turn 68 = .ok (.iastore, 1) := by decide +kernel
theorem dX8_turn_69 : decode cX8_turn 69 = .ok (.aload_n 0, 1) := by decide +kernel
theorem dX8_turn_70 : decode cX8_turn 70 = .ok (.getfield 30, 3) := by decide +kernel
theorem dX8_turn_73 : decode cX8_turn 73 = .ok (.getfield 109, 3) := by decide +kernel
theorem dX8_turn_76 : decode cX8_turn 76 = .ok (.iload_n 1, 1) := by decide +kernel
theorem dX8_turn_77 : decode cX8_turn 77 = .ok (.iload_n 3, 1) := by decide +kernel
theorem dX8_turn_78 : decode cX8_turn 78 = .ok (.iastore, 1) := by decide +kernel
theorem dX8_turn_79 : decode cX8_turn 79 = .ok (.iload 5, 2) := by decide +kernel
theorem dX8_turn_81 : decode cX8_turn 81 = .ok (.ireturn, 1) := by decide +kernel
theorem dX8_months_0 : decode cX8_months 0 = .ok (.iload_n 1, 1) := by decide +kernel
theorem dX8_months_1 : decode cX8_months 1 = .ok (.iconst 1, 1) := by decide +kernel
theorem dX8_months_2 : decode cX8_months 2 = .ok (.bipush 60, 2) := by decide +kernel
theorem dX8_months_4 : decode cX8_months 4 = .ok (.invokestatic 73, 3) := by decide +kernel
theorem dX8_months_7 : decode cX8_months 7 = .ok (.istore_n 2, 1) := by decide +kernel
theorem dX8_months_8 : decode cX8_months 8 = .ok (.iload_n 2, 1) := by decide +kernel
theorem dX8_months_9 : decode cX8_months 9 = .ok (.ifCond .eq 9, 3) := by decide +kernel
theorem dX8_months_12 : decode cX8_months 12 = .ok (.aload_n 0, 1) := by decide +kernel
theorem dX8_months_13 : decode cX8_months 13 = .ok (.iload_n 2, 1) := by decide +kernel
theorem dX8_months_14 : decode cX8_months 14 = .ok (.invokevirtual 77, 3) := by decide +kernel
theorem dX8_months_17 : decode cX8_months 17 = .ok (.ireturn, 1) := by decide +kernel
theorem dX8_months_18 : decode cX8_months 18 = .ok (.aload_n 0, 1) := by decide +kernel
theorem dX8_months_19 : decode cX8_months 19 = .ok (.getfield 30, 3) := by decide +kernel
theorem dX8_months_22 : decode cX8_months 22 = .ok (.getfield 163, 3) := by decide +kernel
theorem dX8_months_25 : decode cX8_months 25 = .ok (.iload_n 1, 1) := by decide +kernel
theorem dX8_months_26 : decode cX8_months 26 = .ok (.iadd, 1) := by decide +kernel
theorem dX8_months_27 : decode cX8_months 27 = .ok (.sipush 999, 3) := by decide +kernel
theorem dX8_months_30 : decode cX8_months 30 = .ok (.if_icmp .le 10, 3) := by decide +kernel
theorem dX8_months_33 : decode cX8_months 33 = .ok (.aload_n 0, 1) := by decide +kernel
theorem dX8_months_34 : decode cX8_months 34 = .ok (.bipush (-6), 2) := by decide +kernel
theorem dX8_months_36 : decode cX8_months 36 = .ok (.invokevirtual 77, 3) := by decide +kernel
theorem dX8_months_39 : decode cX8_months 39 = .ok (.ireturn, 1) := by decide +kernel
theorem dX8_months_40 : decode cX8_months 40 = .ok (.aload_n 0, 1) := by decide +kernel
theorem dX8_months_41 : decode cX8_months 41 = .ok (.getfield 30, 3) := by decide +kernel
theorem dX8_months_44 : decode cX8_months 44 = .ok (.iload_n 1, 1) := by decide +kernel
theorem dX8_months_45 : decode cX8_months 45 = .ok (.invokevirtual 166, 3) := by decide +kernel
theorem dX8_months_48 : decode cX8_months 48 = .ok (.aload_n 0, 1) := by decide +kernel
theorem dX8_months_49 : decode cX8_months 49 = .ok (.getfield 30, 3) := by decide +kernel
theorem dX8_months_52 : decode cX8_months 52 = .ok (.invokevirtual 138, 3) := by decide +kernel
theorem dX8_months_55 : decode cX8_months 55 = .ok (.ireturn, 1) := by decide +kernel
theorem dX8_faceThen_0 : decode cX8_faceThen 0 = .ok (.aload_n 0, 1) := by decide +kernel
theorem dX8_faceThen_1 : decode cX8_faceThen 1 = .ok (.iload_n 1, 1) := by decide +kernel
theorem dX8_faceThen_2 : decode cX8_faceThen 2 = .ok (.invokevirtual 96, 3) := by decide +kernel
theorem dX8_faceThen_5 : decode cX8_faceThen 5 = .ok (.iload_n 2, 1) := by decide +kernel
theorem dX8_faceThen_6 : decode cX8_faceThen 6 = .ok (.iconst 0, 1) := by decide +kernel
theorem dX8_faceThen_7 : decode cX8_faceThen 7 = .ok (.bipush 60, 2) := by decide +kernel
theorem dX8_faceThen_9 : decode cX8_faceThen 9 = .ok (.invokestatic 73, 3) := by decide +kernel
theorem dX8_faceThen_12 : decode cX8_faceThen 12 = .ok (.iload_n 3, 1) := by decide +kernel
theorem dX8_faceThen_13 : decode cX8_faceThen 13 = .ok (.iconst 4, 1) := by decide +kernel
theorem dX8_faceThen_14 : decode cX8_faceThen 14 = .ok (.invokestatic 99, 3) := by decide +kernel
theorem dX8_faceThen_17 : decode cX8_faceThen 17 = .ok (.invokestatic 154, 3) := by decide +kernel
theorem dX8_faceThen_20 : decode cX8_faceThen 20 = .ok (.istore 4, 2) := by decide +kernel
theorem dX8_faceThen_22 : decode cX8_faceThen 22 = .ok (.iload 4, 2) := by decide +kernel
theorem dX8_faceThen_24 : decode cX8_faceThen 24 = .ok (.ifCond .eq 10, 3) := by decide +kernel
theorem dX8_faceThen_27 : decode cX8_faceThen 27 = .ok (.aload_n 0, 1) := by decide +kernel
theorem dX8_faceThen_28 : decode cX8_faceThen 28 = .ok (.iload 4, 2) := by decide +kernel
theorem dX8_faceThen_30 : decode cX8_faceThen 30 = .ok (.invokevirtual 77, 3) := by decide +kernel
theorem dX8_faceThen_33 : decode cX8_faceThen 33 = .ok (.ireturn, 1) := by decide +kernel
theorem dX8_faceThen_34 : decode cX8_faceThen 34 = .ok (.aload_n 0, 1) := by decide +kernel
theorem dX8_faceThen_35 : decode cX8_faceThen 35 = .ok (.iload_n 2, 1) := by decide +kernel
theorem dX8_faceThen_36 : decode cX8_faceThen 36 = .ok (.invokevirtual 170, 3) := by decide +kernel
theorem dX8_faceThen_39 : decode cX8_faceThen 39 = .ok (.aload_n 0, 1) := by decide +kernel
theorem dX8_faceThen_40 : decode cX8_faceThen 40 = .ok (.getfield 36, 3) := by decide +kernel
theorem dX8_faceThen_43 : decode cX8_faceThen 43 = .ok (.iload_n 1, 1) := by decide +kernel
theorem dX8_faceThen_44 : decode cX8_faceThen 44 = .ok (.iload_n 3, 1) := by decide +kernel
theorem dX8_faceThen_45 : decode cX8_faceThen 45 = .ok (.invokevirtual 118, 3) := by decide +kernel
theorem dX8_faceThen_48 : decode cX8_faceThen 48 = .ok (.ireturn, 1) := by decide +kernel
theorem dX8_wornThen_0 : decode cX8_wornThen 0 = .ok (.aload_n 0, 1) := by decide +kernel
theorem dX8_wornThen_1 : decode cX8_wornThen 1 = .ok (.iload_n 1, 1) := by decide +kernel
theorem dX8_wornThen_2 : decode cX8_wornThen 2 = .ok (.invokevirtual 96, 3) := by decide +kernel
theorem dX8_wornThen_5 : decode cX8_wornThen 5 = .ok (.iload_n 2, 1) := by decide +kernel
theorem dX8_wornThen_6 : decode cX8_wornThen 6 = .ok (.iconst 0, 1) := by decide +kernel
theorem dX8_wornThen_7 : decode cX8_wornThen 7 = .ok (.bipush 60, 2) := by decide +kernel
theorem dX8_wornThen_9 : decode cX8_wornThen 9 = .ok (.invokestatic 73, 3) := by decide +kernel
theorem dX8_wornThen_12 : decode cX8_wornThen 12 = .ok (.invokestatic 103, 3) := by decide +kernel
theorem dX8_wornThen_15 : decode cX8_wornThen 15 = .ok (.istore_n 3, 1) := by decide +kernel
theorem dX8_wornThen_16 : decode cX8_wornThen 16 = .ok (.iload_n 3, 1) := by decide +kernel
theorem dX8_wornThen_17 : decode cX8_wornThen 17 = .ok (.ifCond .eq 9, 3) := by decide +kernel
theorem dX8_wornThen_20 : decode cX8_wornThen 20 = .ok (.aload_n 0, 1) := by decide +kernel
theorem dX8_wornThen_21 : decode cX8_wornThen 21 = .ok (.iload_n 3, 1) := by decide +kernel
theorem dX8_wornThen_22 : decode cX8_wornThen 22 = .ok (.invokevirtual 77, 3) := by decide +kernel
theorem dX8_wornThen_25 : decode cX8_wornThen 25 = .ok (.ireturn, 1) := by decide +kernel
theorem dX8_wornThen_26 : decode cX8_wornThen 26 = .ok (.aload_n 0, 1) := by decide +kernel
theorem dX8_wornThen_27 : decode cX8_wornThen 27 = .ok (.iload_n 2, 1) := by decide +kernel
theorem dX8_wornThen_28 : decode cX8_wornThen 28 = .ok (.invokevirtual 170, 3) := by decide +kernel
theorem dX8_wornThen_31 : decode cX8_wornThen 31 = .ok (.aload_n 0, 1) := by decide +kernel
theorem dX8_wornThen_32 : decode cX8_wornThen 32 = .ok (.getfield 36, 3) := by decide +kernel
theorem dX8_wornThen_35 : decode cX8_wornThen 35 = .ok (.getfield 115, 3) := by decide +kernel
theorem dX8_wornThen_38 : decode cX8_wornThen 38 = .ok (.iload_n 1, 1) := by decide +kernel
theorem dX8_wornThen_39 : decode cX8_wornThen 39 = .ok (.iaload, 1) := by decide +kernel
theorem dX8_wornThen_40 : decode cX8_wornThen 40 = .ok (.ireturn, 1) := by decide +kernel
theorem dX8_first_0 : decode cX8_first 0 = .ok (.iload_n 1, 1) := by decide +kernel
theorem dX8_first_1 : decode cX8_first 1 = .ok (.iconst 3, 1) := by decide +kernel
theorem dX8_first_2 : decode cX8_first 2 = .ok (.invokestatic 99, 3) := by decide +kernel
theorem dX8_first_5 : decode cX8_first 5 = .ok (.istore_n 2, 1) := by decide +kernel
theorem dX8_first_6 : decode cX8_first 6 = .ok (.iload_n 2, 1) := by decide +kernel
theorem dX8_first_7 : decode cX8_first 7 = .ok (.ifCond .eq 9, 3) := by decide +kernel
theorem dX8_first_10 : decode cX8_first 10 = .ok (.aload_n 0, 1) := by decide +kernel
theorem dX8_first_11 : decode cX8_first 11 = .ok (.iload_n 2, 1) := by decide +kernel
theorem dX8_first_12 : decode cX8_first 12 = .ok (.invokevirtual 77, 3) := by decide +kernel
theorem dX8_first_15 : decode cX8_first 15 = .ok (.ireturn, 1) := by decide +kernel
theorem dX8_first_16 : decode cX8_first 16 = .ok (.iload_n 1, 1) := by decide +kernel
theorem dX8_first_17 : decode cX8_first 17 = .ok (.iconst 2, 1) := by decide +kernel
theorem dX8_first_18 : decode cX8_first 18 = .ok (.if_icmp .ne 10, 3) := by decide +kernel
theorem dX8_first_21 : decode cX8_first 21 = .ok (.aload_n 0, 1) := by decide +kernel
theorem dX8_first_22 : decode cX8_first 22 = .ok (.invokevirtual 173, 3) := by decide +kernel
theorem dX8_first_25 : decode cX8_first 25 = .ok (.goto 8, 3) := by decide +kernel
theorem dX8_first_28 : decode cX8_first 28 = .ok (.aload_n 0, 1) := by decide +kernel
theorem dX8_first_29 : decode cX8_first 29 = .ok (.iload_n 1, 1) := by decide +kernel
theorem dX8_first_30 : decode cX8_first 30 = .ok (.invokevirtual 176, 3) := by decide +kernel
theorem dX8_first_33 : decode cX8_first 33 = .ok (.ireturn, 1) := by decide +kernel
theorem dX8_monthsTillHome_0 : decode cX8_monthsTillHome 0 = .ok (.aload_n 0, 1) := by decide +kernel
theorem dX8_monthsTillHome_1 : decode cX8_monthsTillHome 1 = .ok (.getfield 36, 3) := by decide +kernel
theorem dX8_monthsTillHome_4 : decode cX8_monthsTillHome 4 = .ok (.aload_n 0, 1) := by decide +kernel
theorem dX8_monthsTillHome_5 : decode cX8_monthsTillHome 5 = .ok (.getfield 30, 3) := by decide +kernel
theorem dX8_monthsTillHome_8 : decode cX8_monthsTillHome 8 = .ok (.invokevirtual 88, 3) := by decide +kernel
theorem dX8_monthsTillHome_11 : decode cX8_monthsTillHome 11 = .ok (.iconst 0, 1) := by decide +kernel
theorem dX8_monthsTillHome_12 : decode cX8_monthsTillHome 12 = .ok (.istore_n 1, 1) := by decide +kernel
theorem dX8_monthsTillHome_13 : decode cX8_monthsTillHome 13 = .ok (.iload_n 1, 1) := by decide +kernel
theorem dX8_monthsTillHome_14 : decode cX8_monthsTillHome 14 = .ok (.bipush 60, 2) := by decide +kernel
theorem dX8_monthsTillHome_16 : decode cX8_monthsTillHome 16 = .ok (.if_icmp .gt 29, 3) := by decide +kernel
theorem dX8_monthsTillHome_19 : decode cX8_monthsTillHome 19 = .ok (.aload_n 0, 1) := by decide +kernel
theorem dX8_monthsTillHome_20 : decode cX8_monthsTillHome 20 = .ok (.getfield 36, 3) := by decide +kernel
theorem dX8_monthsTillHome_23 : decode cX8_monthsTillHome 23 = .ok (.invokevirtual 179, 3) := by decide +kernel
theorem dX8_monthsTillHome_26 : decode cX8_monthsTillHome 26 = .ok (.ifCond .eq 5, 3) := by decide +kernel
theorem dX8_monthsTillHome_29 : decode cX8_monthsTillHome 29 = .ok (.iload_n 1, 1) := by decide +kernel
theorem dX8_monthsTillHome_30 : decode cX8_monthsTillHome 30 = .ok (.ireturn, 1) := by decide +kernel
theorem dX8_monthsTillHome_31 : decode cX8_monthsTillHome 31 = .ok (.aload_n 0, 1) := by decide +kernel
theorem dX8_monthsTillHome_32 : decode cX8_monthsTillHome 32 = .ok (.getfield 36, 3) := by decide +kernel
theorem dX8_monthsTillHome_35 : decode cX8_monthsTillHome 35 = .ok (.iconst 1, 1) := by decide +kernel
theorem dX8_monthsTillHome_36 : decode cX8_monthsTillHome 36 = .ok (.invokevirtual 166, 3) := by decide +kernel
theorem dX8_monthsTillHome_39 : decode cX8_monthsTillHome 39 = .ok (.iinc 1 1, 3) := by decide +kernel
theorem dX8_monthsTillHome_42 : decode cX8_monthsTillHome 42 = .ok (.goto (-29), 3) := by decide +kernel
theorem dX8_monthsTillHome_45 : decode cX8_monthsTillHome 45 = .ok (.bipush (-9), 2) := by decide +kernel
theorem dX8_monthsTillHome_47 : decode cX8_monthsTillHome 47 = .ok (.ireturn, 1) := by decide +kernel
theorem dX8_firstWithoutFame_0 : decode cX8_firstWithoutFame 0 = .ok (.aload_n 0, 1) := by decide +kernel
theorem dX8_firstWithoutFame_1 : decode cX8_firstWithoutFame 1 = .ok (.getfield 36, 3) := by decide +kernel
theorem dX8_firstWithoutFame_4 : decode cX8_firstWithoutFame 4 = .ok (.aload_n 0, 1) := by decide +kernel
theorem dX8_firstWithoutFame_5 : decode cX8_firstWithoutFame 5 = .ok (.getfield 30, 3) := by decide +kernel
theorem dX8_firstWithoutFame_8 : decode cX8_firstWithoutFame 8 = .ok (.invokevirtual 88, 3) := by decide +kernel
theorem dX8_firstWithoutFame_11 : decode cX8_firstWithoutFame 11 = .ok (.iconst 0, 1) := by decide +kernel
theorem dX8_firstWithoutFame_12 : decode cX8_firstWithoutFame 12 = .ok (.istore_n 2, 1) := by decide +kernel
theorem dX8_firstWithoutFame_13 : decode cX8_firstWithoutFame 13 = .ok (.iload_n 2, 1) := by decide +kernel
theorem dX8_firstWithoutFame_14 : decode cX8_firstWithoutFame 14 = .ok (.bipush 60, 2) := by decide +kernel
theorem dX8_firstWithoutFame_16 : decode cX8_firstWithoutFame 16 = .ok (.if_icmp .gt 41, 3) := by decide +kernel
theorem dX8_firstWithoutFame_19 : decode cX8_firstWithoutFame 19 = .ok (.aload_n 0, 1) := by decide +kernel
theorem dX8_firstWithoutFame_20 : decode cX8_firstWithoutFame 20 = .ok (.getfield 36, 3) := by decide +kernel
theorem dX8_firstWithoutFame_23 : decode cX8_firstWithoutFame 23 = .ok (.invokevirtual 183, 3) := by decide +kernel
theorem dX8_firstWithoutFame_26 : decode cX8_firstWithoutFame 26 = .ok (.istore_n 3, 1) := by decide +kernel
theorem dX8_firstWithoutFame_27 : decode cX8_firstWithoutFame 27 = .ok (.iload_n 3, 1) := by decide +kernel
theorem dX8_firstWithoutFame_28 : decode cX8_firstWithoutFame 28 = .ok (.bipush (-9), 2) := by decide +kernel
theorem dX8_firstWithoutFame_30 : decode cX8_firstWithoutFame 30 = .ok (.if_icmp .eq 13, 3) := by decide +kernel
theorem dX8_firstWithoutFame_33 : decode cX8_firstWithoutFame 33 = .ok (.iload_n 1, 1) := by decide +kernel
theorem dX8_firstWithoutFame_34 : decode cX8_firstWithoutFame 34 = .ok (.ifCond .ne 7, 3) := by decide +kernel
theorem dX8_firstWithoutFame_37 : decode cX8_firstWithoutFame 37 = .ok (.iload_n 3, 1) := by decide +kernel
theorem dX8_firstWithoutFame_38 : decode cX8_firstWithoutFame 38 = .ok (.goto 4, 3) := by decide +kernel
theorem dX8_firstWithoutFame_41 : decode cX8_firstWithoutFame 41 = .ok (.iload_n 2, 1) := by decide +kernel
theorem dX8_firstWithoutFame_42 : decode cX8_firstWithoutFame 42 = .ok (.ireturn, 1) := by decide +kernel
theorem dX8_firstWithoutFame_43 : decode cX8_firstWithoutFame 43 = .ok (.aload_n 0, 1) := by decide +kernel
theorem dX8_firstWithoutFame_44 : decode cX8_firstWithoutFame 44 = .ok (.getfield 36, 3) := by decide +kernel
theorem dX8_firstWithoutFame_47 : decode cX8_firstWithoutFame 47 = .ok (.iconst 1, 1) := by decide +kernel
theorem dX8_firstWithoutFame_48 : decode cX8_firstWithoutFame 48 = .ok (.invokevirtual 166, 3) := by decide +kernel
theorem dX8_firstWithoutFame_51 : decode cX8_firstWithoutFame 51 = .ok (.iinc 2 1, 3) := by decide +kernel
theorem dX8_firstWithoutFame_54 : decode cX8_firstWithoutFame 54 = .ok (.goto (-41), 3) := by decide +kernel
theorem dX8_firstWithoutFame_57 : decode cX8_firstWithoutFame 57 = .ok (.bipush (-9), 2) := by decide +kernel
theorem dX8_firstWithoutFame_59 : decode cX8_firstWithoutFame 59 = .ok (.ireturn, 1) := by decide +kernel
theorem dX8_think_0 : decode cX8_think 0 = .ok (.aload_n 0, 1) := by decide +kernel
theorem dX8_think_1 : decode cX8_think 1 = .ok (.getfield 36, 3) := by decide +kernel
theorem dX8_think_4 : decode cX8_think 4 = .ok (.aload_n 0, 1) := by decide +kernel
theorem dX8_think_5 : decode cX8_think 5 = .ok (.getfield 30, 3) := by decide +kernel
theorem dX8_think_8 : decode cX8_think 8 = .ok (.invokevirtual 88, 3) := by decide +kernel
theorem dX8_think_11 : decode cX8_think 11 = .ok (.aload_n 0, 1) := by decide +kernel
theorem dX8_think_12 : decode cX8_think 12 = .ok (.getfield 36, 3) := by decide +kernel
theorem dX8_think_15 : decode cX8_think 15 = .ok (.iload_n 1, 1) := by decide +kernel
theorem dX8_think_16 : decode cX8_think 16 = .ok (.invokevirtual 166, 3) := by decide +kernel
theorem dX8_think_19 : decode cX8_think 19 = .ok (.return_, 1) := by decide +kernel
theorem dX8_meets_0 : decode cX8_meets 0 = .ok (.aload_n 0, 1) := by decide +kernel
theorem dX8_meets_1 : decode cX8_meets 1 = .ok (.iload_n 1, 1) := by decide +kernel
theorem dX8_meets_2 : decode cX8_meets 2 = .ok (.iload_n 2, 1) := by decide +kernel
theorem dX8_meets_3 : decode cX8_meets 3 = .ok (.invokevirtual 127, 3) := by decide +kernel
theorem dX8_meets_6 : decode cX8_meets 6 = .ok (.istore_n 3, 1) := by decide +kernel
theorem dX8_meets_7 : decode cX8_meets 7 = .ok (.iload_n 3, 1) := by decide +kernel
theorem dX8_meets_8 : decode cX8_meets 8 = .ok (.ifCond .eq 9, 3) := by decide +kernel
theorem dX8_meets_11 : decode cX8_meets 11 = .ok (.aload_n 0, 1) := by decide +kernel
theorem dX8_meets_12 : decode cX8_meets 12 = .ok (.iload_n 3, 1) := by decide +kernel
theorem dX8_meets_13 : decode cX8_meets 13 = .ok (.invokevirtual 77, 3) := by decide +kernel
theorem dX8_meets_16 : decode cX8_meets 16 = .ok (.ireturn, 1) := by decide +kernel
theorem dX8_meets_17 : decode cX8_meets 17 = .ok (.aload_n 0, 1) := by decide +kernel
theorem dX8_meets_18 : decode cX8_meets 18 = .ok (.getfield 30, 3) := by decide +kernel
theorem dX8_meets_21 : decode cX8_meets 21 = .ok (.iload_n 1, 1) := by decide +kernel
theorem dX8_meets_22 : decode cX8_meets 22 = .ok (.iload_n 2, 1) := by decide +kernel
theorem dX8_meets_23 : decode cX8_meets 23 = .ok (.invokevirtual 186, 3) := by decide +kernel
theorem dX8_meets_26 : decode cX8_meets 26 = .ok (.ireturn, 1) := by decide +kernel
theorem dX8_deceived_0 : decode cX8_deceived 0 = .ok (.aload_n 0, 1) := by decide +kernel
theorem dX8_deceived_1 : decode cX8_deceived 1 = .ok (.iload_n 1, 1) := by decide +kernel
theorem dX8_deceived_2 : decode cX8_deceived 2 = .ok (.invokevirtual 96, 3) := by decide +kernel
theorem dX8_deceived_5 : decode cX8_deceived 5 = .ok (.iload_n 2, 1) := by decide +kernel
theorem dX8_deceived_6 : decode cX8_deceived 6 = .ok (.iconst 2, 1) := by decide +kernel
theorem dX8_deceived_7 : decode cX8_deceived 7 = .ok (.invokestatic 99, 3) := by decide +kernel
theorem dX8_deceived_10 : decode cX8_deceived 10 = .ok (.invokestatic 103, 3) := by decide +kernel
theorem dX8_deceived_13 : decode cX8_deceived 13 = .ok (.istore_n 3, 1) := by decide +kernel
theorem dX8_deceived_14 : decode cX8_deceived 14 = .ok (.iload_n 3, 1) := by decide +kernel
theorem dX8_deceived_15 : decode cX8_deceived 15 = .ok (.ifCond .eq 9, 3) := by decide +kernel
theorem dX8_deceived_18 : decode cX8_deceived 18 = .ok (.aload_n 0, 1) := by decide +kernel
theorem dX8_deceived_19 : decode cX8_deceived 19 = .ok (.iload_n 3, 1) := by decide +kernel
theorem dX8_deceived_20 : decode cX8_deceived 20 = .ok (.invokevirtual 77, 3) := by decide +kernel
theorem dX8_deceived_23 : decode cX8_deceived 23 = .ok (.ireturn, 1) := by decide +kernel
theorem dX8_deceived_24 : decode cX8_deceived 24 = .ok (.iload_n 2, 1) := by decide +kernel
theorem dX8_deceived_25 : decode cX8_deceived 25 = .ok (.ifCond .ne 16, 3) := by decide +kernel
theorem dX8_deceived_28 : decode cX8_deceived 28 = .ok (.aload_n 0, 1) := by decide +kernel
theorem dX8_deceived_29 : decode cX8_deceived 29 = .ok (.getfield 30, 3) := by decide +kernel
theorem dX8_deceived_32 : decode cX8_deceived 32 = .ok (.iload_n 1, 1) := by decide +kernel
theorem dX8_deceived_33 : decode cX8_deceived 33 = .ok (.invokevirtual 189, 3) := by decide +kernel
theorem dX8_deceived_36 : decode cX8_deceived 36 = .ok (.ifCond .eq 5, 3) := by decide +kernel
theorem dX8_deceived_39 : decode cX8_deceived 39 = .ok (.iconst 0, 1) := by decide +kernel
theorem dX8_deceived_40 : decode cX8_deceived 40 = .ok (.ireturn, 1) := by decide +kernel
theorem dX8_deceived_41 : decode cX8_deceived 41 = .ok (.iconst 0, 1) := by decide +kernel
theorem dX8_deceived_42 : decode cX8_deceived 42 = .ok (.istore 4, 2) := by decide +kernel
theorem dX8_deceived_44 : decode cX8_deceived 44 = .ok (.iconst 0, 1) := by decide +kernel
theorem dX8_deceived_45 : decode cX8_deceived 45 = .ok (.istore 5, 2) := by decide +kernel
theorem dX8_deceived_47 : decode cX8_deceived 47 = .ok (.iload 5, 2) := by decide +kernel
theorem dX8_deceived_49 : decode cX8_deceived 49 = .ok (.aload_n 0, 1) := by decide +kernel
theorem dX8_deceived_50 : decode cX8_deceived 50 = .ok (.getfield 30, 3) := by decide +kernel
theorem dX8_deceived_53 : decode cX8_deceived 53 = .ok (.getfield 192, 3) := by decide +kernel
theorem dX8_deceived_56 : decode cX8_deceived 56 = .ok (.if_icmp .ge 33, 3) := by decide +kernel
theorem dX8_deceived_59 : decode cX8_deceived 59 = .ok (.iload 5, 2) := by decide +kernel
theorem dX8_deceived_61 : decode cX8_deceived 61 = .ok (.iload_n 1, 1) := by decide +kernel
theorem dX8_deceived_62 : decode cX8_deceived 62 = .ok (.if_icmp .eq 21, 3) := by decide +kernel
theorem dX8_deceived_65 : decode cX8_deceived 65 = .ok (.aload_n 0, 1) := by decide +kernel
theorem dX8_deceived_66 : decode cX8_deceived 66 = .ok (.getfield 30, 3) := by decide +kernel
theorem dX8_deceived_69 : decode cX8_deceived 69 = .ok (.iload 5, 2) := by decide +kernel
theorem dX8_deceived_71 : decode cX8_deceived 71 = .ok (.iload_n 1, 1) := by decide +kernel
theorem dX8_deceived_72 : decode cX8_deceived 72 = .ok (.invokevirtual 186, 3) := by decide +kernel
theorem dX8_deceived_75 : decode cX8_deceived 75 = .ok (.bipush 9, 2) := by decide +kernel
theorem dX8_deceived_77 : decode cX8_deceived 77 = .ok (.if_icmp .eq 6, 3) := by decide +kernel
theorem dX8_deceived_80 : decode cX8_deceived 80 = .ok (.iinc 4 1, 3) := by decide +kernel
theorem dX8_deceived_83 : decode cX8_deceived 83 = .ok (.iinc 5 1, 3) := by decide +kernel
theorem dX8_deceived_86 : decode cX8_deceived 86 = .ok (.goto (-39), 3) := by decide +kernel
theorem dX8_deceived_89 : decode cX8_deceived 89 = .ok (.iload 4, 2) := by decide +kernel
theorem dX8_deceived_91 : decode cX8_deceived 91 = .ok (.ireturn, 1) := by decide +kernel
theorem dX8_famous_0 : decode cX8_famous 0 = .ok (.iload_n 1, 1) := by decide +kernel
theorem dX8_famous_1 : decode cX8_famous 1 = .ok (.iconst 2, 1) := by decide +kernel
theorem dX8_famous_2 : decode cX8_famous 2 = .ok (.invokestatic 99, 3) := by decide +kernel
theorem dX8_famous_5 : decode cX8_famous 5 = .ok (.istore_n 2, 1) := by decide +kernel
theorem dX8_famous_6 : decode cX8_famous 6 = .ok (.iload_n 2, 1) := by decide +kernel
theorem dX8_famous_7 : decode cX8_famous 7 = .ok (.ifCond .eq 9, 3) := by decide +kernel
theorem dX8_famous_10 : decode cX8_famous 10 = .ok (.aload_n 0, 1) := by decide +kernel
theorem dX8_famous_11 : decode cX8_famous 11 = .ok (.iload_n 2, 1) := by decide +kernel
theorem dX8_famous_12 : decode cX8_famous 12 = .ok (.invokevirtual 77, 3) := by decide +kernel
theorem dX8_famous_15 : decode cX8_famous 15 = .ok (.ireturn, 1) := by decide +kernel
theorem dX8_famous_16 : decode cX8_famous 16 = .ok (.iload_n 1, 1) := by decide +kernel
theorem dX8_famous_17 : decode cX8_famous 17 = .ok (.ifCond .ne 13, 3) := by decide +kernel
theorem dX8_famous_20 : decode cX8_famous 20 = .ok (.aload_n 0, 1) := by decide +kernel
theorem dX8_famous_21 : decode cX8_famous 21 = .ok (.getfield 30, 3) := by decide +kernel
theorem dX8_famous_24 : decode cX8_famous 24 = .ok (.getfield 157, 3) := by decide +kernel
theorem dX8_famous_27 : decode cX8_famous 27 = .ok (.goto 10, 3) := by decide +kernel
theorem dX8_famous_30 : decode cX8_famous 30 = .ok (.aload_n 0, 1) := by decide +kernel
theorem dX8_famous_31 : decode cX8_famous 31 = .ok (.getfield 30, 3) := by decide +kernel
theorem dX8_famous_34 : decode cX8_famous 34 = .ok (.getfield 160, 3) := by decide +kernel
theorem dX8_famous_37 : decode cX8_famous 37 = .ok (.astore_n 3, 1) := by decide +kernel
theorem dX8_famous_38 : decode cX8_famous 38 = .ok (.bipush (-9), 2) := by decide +kernel
theorem dX8_famous_40 : decode cX8_famous 40 = .ok (.istore 4, 2) := by decide +kernel
theorem dX8_famous_42 : decode cX8_famous 42 = .ok (.iconst (-1), 1) := by decide +kernel
theorem dX8_famous_43 : decode cX8_famous 43 = .ok (.istore 5, 2) := by decide +kernel
theorem dX8_famous_45 : decode cX8_famous 45 = .ok (.iconst 0, 1) := by decide +kernel
theorem dX8_famous_46 : decode cX8_famous 46 = .ok (.istore 6, 2) := by decide +kernel
theorem dX8_famous_48 : decode cX8_famous 48 = .ok (.iload 6, 2) := by decide +kernel
theorem dX8_famous_50 : decode cX8_famous 50 = .ok (.aload_n 0, 1) := by decide +kernel
theorem dX8_famous_51 : decode cX8_famous 51 = .ok (.getfield 30, 3) := by decide +kernel
theorem dX8_famous_54 : decode cX8_famous 54 = .ok (.getfield 192, 3) := by decide +kernel
theorem dX8_famous_57 : decode cX8_famous 57 = .ok (.if_icmp .ge 28, 3) := by decide +kernel
theorem dX8_famous_60 : decode cX8_famous 60 = .ok (.aload_n 3, 1) := by decide +kernel
theorem dX8_famous_61 : decode cX8_famous 61 = .ok (.iload 6, 2) := by decide +kernel
theorem dX8_famous_63 : decode cX8_famous 63 = .ok (.iaload, 1) := by decide +kernel
theorem dX8_famous_64 : decode cX8_famous 64 = .ok (.iload 5, 2) := by decide +kernel
theorem dX8_famous_66 : decode cX8_famous 66 = .ok (.if_icmp .le 13, 3) := by decide +kernel
theorem dX8_famous_69 : decode cX8_famous 69 = .ok (.iload 6, 2) := by decide +kernel
theorem dX8_famous_71 : decode cX8_famous 71 = .ok (.istore 4, 2) := by decide +kernel
theorem dX8_famous_73 : decode cX8_famous 73 = .ok (.aload_n 3, 1) := by decide +kernel
theorem dX8_famous_74 : decode cX8_famous 74 = .ok (.iload 6, 2) := by decide +kernel
theorem dX8_famous_76 : decode cX8_famous 76 = .ok (.iaload, 1) := by decide +kernel
theorem dX8_famous_77 : decode cX8_famous 77 = .ok (.istore 5, 2) := by decide +kernel
theorem dX8_famous_79 : decode cX8_famous 79 = .ok (.iinc 6 1, 3) := by decide +kernel
theorem dX8_famous_82 : decode cX8_famous 82 = .ok (.goto (-34), 3) := by decide +kernel
theorem dX8_famous_85 : decode cX8_famous 85 = .ok (.iload 4, 2) := by decide +kernel
theorem dX8_famous_87 : decode cX8_famous 87 = .ok (.ireturn, 1) := by decide +kernel
theorem dX8_chained_0 : decode cX8_chained 0 = .ok (.iload_n 1, 1) := by decide +kernel
theorem dX8_chained_1 : decode cX8_chained 1 = .ok (.iconst 3, 1) := by decide +kernel
theorem dX8_chained_2 : decode cX8_chained 2 = .ok (.invokestatic 99, 3) := by decide +kernel
theorem dX8_chained_5 : decode cX8_chained 5 = .ok (.istore_n 2, 1) := by decide +kernel
theorem dX8_chained_6 : decode cX8_chained 6 = .ok (.iload_n 2, 1) := by decide +kernel
theorem dX8_chained_7 : decode cX8_chained 7 = .ok (.ifCond .eq 9, 3) := by decide +kernel
theorem dX8_chained_10 : decode cX8_chained 10 = .ok (.aload_n 0, 1) := by decide +kernel
theorem dX8_chained_11 : decode cX8_chained 11 = .ok (.iload_n 2, 1) := by decide +kernel
theorem dX8_chained_12 : decode cX8_chained 12 = .ok (.invokevirtual 77, 3) := by decide +kernel
theorem dX8_chained_15 : decode cX8_chained 15 = .ok (.ireturn, 1) := by decide +kernel
theorem dX8_chained_16 : decode cX8_chained 16 = .ok (.iload_n 1, 1) := by decide +kernel
theorem dX8_chained_17 : decode cX8_chained 17 = .ok (.lookupswitch 43 #[(0, 27), (1, 35)], 27) := by decide +kernel
theorem dX8_chained_44 : decode cX8_chained 44 = .ok (.aload_n 0, 1) := by decide +kernel
theorem dX8_chained_45 : decode cX8_chained 45 = .ok (.getfield 30, 3) := by decide +kernel
theorem dX8_chained_48 : decode cX8_chained 48 = .ok (.invokevirtual 195, 3) := by decide +kernel
theorem dX8_chained_51 : decode cX8_chained 51 = .ok (.ireturn, 1) := by decide +kernel
theorem dX8_chained_52 : decode cX8_chained 52 = .ok (.aload_n 0, 1) := by decide +kernel
theorem dX8_chained_53 : decode cX8_chained 53 = .ok (.getfield 30, 3) := by decide +kernel
theorem dX8_chained_56 : decode cX8_chained 56 = .ok (.invokevirtual 198, 3) := by decide +kernel
theorem dX8_chained_59 : decode cX8_chained 59 = .ok (.ireturn, 1) := by decide +kernel
theorem dX8_chained_60 : decode cX8_chained 60 = .ok (.aload_n 0, 1) := by decide +kernel
theorem dX8_chained_61 : decode cX8_chained 61 = .ok (.getfield 30, 3) := by decide +kernel
theorem dX8_chained_64 : decode cX8_chained 64 = .ok (.invokevirtual 201, 3) := by decide +kernel
theorem dX8_chained_67 : decode cX8_chained 67 = .ok (.ireturn, 1) := by decide +kernel
theorem dX8_widow_0 : decode cX8_widow 0 = .ok (.aload_n 0, 1) := by decide +kernel
theorem dX8_widow_1 : decode cX8_widow 1 = .ok (.iload_n 1, 1) := by decide +kernel
theorem dX8_widow_2 : decode cX8_widow 2 = .ok (.iload_n 2, 1) := by decide +kernel
theorem dX8_widow_3 : decode cX8_widow 3 = .ok (.invokevirtual 127, 3) := by decide +kernel
theorem dX8_widow_6 : decode cX8_widow 6 = .ok (.istore_n 3, 1) := by decide +kernel
theorem dX8_widow_7 : decode cX8_widow 7 = .ok (.iload_n 3, 1) := by decide +kernel
theorem dX8_widow_8 : decode cX8_widow 8 = .ok (.ifCond .eq 9, 3) := by decide +kernel
theorem dX8_widow_11 : decode cX8_widow 11 = .ok (.aload_n 0, 1) := by decide +kernel
theorem dX8_widow_12 : decode cX8_widow 12 = .ok (.iload_n 3, 1) := by decide +kernel
theorem dX8_widow_13 : decode cX8_widow 13 = .ok (.invokevirtual 77, 3) := by decide +kernel
theorem dX8_widow_16 : decode cX8_widow 16 = .ok (.ireturn, 1) := by decide +kernel
theorem dX8_widow_17 : decode cX8_widow 17 = .ok (.aload_n 0, 1) := by decide +kernel
theorem dX8_widow_18 : decode cX8_widow 18 = .ok (.getfield 30, 3) := by decide +kernel
theorem dX8_widow_21 : decode cX8_widow 21 = .ok (.iload_n 2, 1) := by decide +kernel
theorem dX8_widow_22 : decode cX8_widow 22 = .ok (.invokevirtual 204, 3) := by decide +kernel
theorem dX8_widow_25 : decode cX8_widow 25 = .ok (.istore 4, 2) := by decide +kernel
theorem dX8_widow_27 : decode cX8_widow 27 = .ok (.iload 4, 2) := by decide +kernel
theorem dX8_widow_29 : decode cX8_widow 29 = .ok (.bipush (-9), 2) := by decide +kernel
theorem dX8_widow_31 : decode cX8_widow 31 = .ok (.if_icmp .eq 15, 3) := by decide +kernel
theorem dX8_widow_34 : decode cX8_widow 34 = .ok (.iload 4, 2) := by decide +kernel
theorem dX8_widow_36 : decode cX8_widow 36 = .ok (.iload_n 2, 1) := by decide +kernel
theorem dX8_widow_37 : decode cX8_widow 37 = .ok (.if_icmp .eq 9, 3) := by decide +kernel
theorem dX8_widow_40 : decode cX8_widow 40 = .ok (.iload 4, 2) := by decide +kernel
theorem dX8_widow_42 : decode cX8_widow 42 = .ok (.iload_n 1, 1) := by decide +kernel
theorem dX8_widow_43 : decode cX8_widow 43 = .ok (.if_icmp .ne 6, 3) := by decide +kernel
theorem dX8_widow_46 : decode cX8_widow 46 = .ok (.bipush (-9), 2) := by decide +kernel
theorem dX8_widow_48 : decode cX8_widow 48 = .ok (.ireturn, 1) := by decide +kernel
theorem dX8_widow_49 : decode cX8_widow 49 = .ok (.aload_n 0, 1) := by decide +kernel
theorem dX8_widow_50 : decode cX8_widow 50 = .ok (.getfield 30, 3) := by decide +kernel
theorem dX8_widow_53 : decode cX8_widow 53 = .ok (.iload_n 1, 1) := by decide +kernel
theorem dX8_widow_54 : decode cX8_widow 54 = .ok (.iload_n 2, 1) := by decide +kernel
theorem dX8_widow_55 : decode cX8_widow 55 = .ok (.invokevirtual 151, 3) := by decide +kernel
theorem dX8_widow_58 : decode cX8_widow 58 = .ok (.ifCond .eq 8, 3) := by decide +kernel
theorem dX8_widow_61 : decode cX8_widow 61 = .ok (.iload 4, 2) := by decide +kernel
theorem dX8_widow_63 : decode cX8_widow 63 = .ok (.goto 5, 3) := by decide +kernel
theorem dX8_widow_66 : decode cX8_widow 66 = .ok (.bipush (-9), 2) := by decide +kernel
theorem dX8_widow_68 : decode cX8_widow 68 = .ok (.ireturn, 1) := by decide +kernel
theorem dX8_twins_0 : decode cX8_twins 0 = .ok (.iload_n 1, 1) := by decide +kernel
theorem dX8_twins_1 : decode cX8_twins 1 = .ok (.iconst 2, 1) := by decide +kernel
theorem dX8_twins_2 : decode cX8_twins 2 = .ok (.invokestatic 99, 3) := by decide +kernel
theorem dX8_twins_5 : decode cX8_twins 5 = .ok (.istore_n 2, 1) := by decide +kernel
theorem dX8_twins_6 : decode cX8_twins 6 = .ok (.iload_n 2, 1) := by decide +kernel
theorem dX8_twins_7 : decode cX8_twins 7 = .ok (.ifCond .eq 9, 3) := by decide +kernel
theorem dX8_twins_10 : decode cX8_twins 10 = .ok (.aload_n 0, 1) := by decide +kernel
theorem dX8_twins_11 : decode cX8_twins 11 = .ok (.iload_n 2, 1) := by decide +kernel
theorem dX8_twins_12 : decode cX8_twins 12 = .ok (.invokevirtual 77, 3) := by decide +kernel
theorem dX8_twins_15 : decode cX8_twins 15 = .ok (.ireturn, 1) := by decide +kernel
theorem dX8_twins_16 : decode cX8_twins 16 = .ok (.iconst 0, 1) := by decide +kernel
theorem dX8_twins_17 : decode cX8_twins 17 = .ok (.istore_n 3, 1) := by decide +kernel
theorem dX8_twins_18 : decode cX8_twins 18 = .ok (.bipush (-9), 2) := by decide +kernel
theorem dX8_twins_20 : decode cX8_twins 20 = .ok (.istore 4, 2) := by decide +kernel
theorem dX8_twins_22 : decode cX8_twins 22 = .ok (.iconst 0, 1) := by decide +kernel
theorem dX8_twins_23 : decode cX8_twins 23 = .ok (.istore 5, 2) := by decide +kernel
theorem dX8_twins_25 : decode cX8_twins 25 = .ok (.iload 5, 2) := by decide +kernel
theorem dX8_twins_27 : decode cX8_twins 27 = .ok (.aload_n 0, 1) := by decide +kernel
theorem dX8_twins_28 : decode cX8_twins 28 = .ok (.getfield 30, 3) := by decide +kernel
theorem dX8_twins_31 : decode cX8_twins 31 = .ok (.getfield 192, 3) := by decide +kernel
theorem dX8_twins_34 : decode cX8_twins 34 = .ok (.if_icmp .ge 69, 3) := by decide +kernel
theorem dX8_twins_37 : decode cX8_twins 37 = .ok (.iload 5, 2) := by decide +kernel
theorem dX8_twins_39 : decode cX8_twins 39 = .ok (.iconst 1, 1) := by decide +kernel
theorem dX8_twins_40 : decode cX8_twins 40 = .ok (.iadd, 1) := by decide +kernel
theorem dX8_twins_41 : decode cX8_twins 41 = .ok (.istore 6, 2) := by decide +kernel
theorem dX8_twins_43 : decode cX8_twins 43 = .ok (.iload 6, 2) := by decide +kernel
theorem dX8_twins_45 : decode cX8_twins 45 = .ok (.aload_n 0, 1) := by decide +kernel
theorem dX8_twins_46 : decode cX8_twins 46 = .ok (.getfield 30, 3) := by decide +kernel
theorem dX8_twins_49 : decode cX8_twins 49 = .ok (.getfield 192, 3) := by decide +kernel
theorem dX8_twins_52 : decode cX8_twins 52 = .ok (.if_icmp .ge 45, 3) := by decide +kernel
theorem dX8_twins_55 : decode cX8_twins 55 = .ok (.aload_n 0, 1) := by decide +kernel
theorem dX8_twins_56 : decode cX8_twins 56 = .ok (.getfield 30, 3) := by decide +kernel
theorem dX8_twins_59 : decode cX8_twins 59 = .ok (.iload 5, 2) := by decide +kernel
theorem dX8_twins_61 : decode cX8_twins 61 = .ok (.iload 6, 2) := by decide +kernel
theorem dX8_twins_63 : decode cX8_twins 63 = .ok (.invokevirtual 207, 3) := by decide +kernel
theorem dX8_twins_66 : decode cX8_twins 66 = .ok (.ifCond .eq 25, 3) := by decide +kernel
theorem dX8_twins_69 : decode cX8_twins 69 = .ok (.iload_n 3, 1) := by decide +kernel
theorem dX8_twins_70 : decode cX8_twins 70 = .ok (.ifCond .ne 14, 3) := by decide +kernel
theorem dX8_twins_73 : decode cX8_twins 73 = .ok (.bipush 10, 2) := by decide +kernel
theorem dX8_twins_75 : decode cX8_twins 75 = .ok (.iload 5, 2) := by decide +kernel
theorem dX8_twins_77 : decode cX8_twins 77 = .ok (.imul, 1) := by decide +kernel
theorem dX8_twins_78 : decode cX8_twins 78 = .ok (.iload 6, 2) := by decide +kernel
theorem dX8_twins_80 : decode cX8_twins 80 = .ok (.iadd, 1) := by decide +kernel
theorem dX8_twins_81 : decode cX8_twins 81 = .ok (.goto 5, 3) := by decide +kernel
theorem dX8_twins_84 : decode cX8_twins 84 = .ok (.iload 4, 2) := by decide +kernel
theorem dX8_twins_86 : decode cX8_twins 86 = .ok (.istore 4, 2) := by decide +kernel
theorem dX8_twins_88 : decode cX8_twins 88 = .ok (.iinc 3 1, 3) := by decide +kernel
theorem dX8_twins_91 : decode cX8_twins 91 = .ok (.iinc 6 1, 3) := by decide +kernel
theorem dX8_twins_94 : decode cX8_twins 94 = .ok (.goto (-51), 3) := by decide +kernel
theorem dX8_twins_97 : decode cX8_twins 97 = .ok (.iinc 5 1, 3) := by decide +kernel
theorem dX8_twins_100 : decode cX8_twins 100 = .ok (.goto (-75), 3) := by decide +kernel
theorem dX8_twins_103 : decode cX8_twins 103 = .ok (.iload_n 1, 1) := by decide +kernel
theorem dX8_twins_104 : decode cX8_twins 104 = .ok (.ifCond .ne 7, 3) := by decide +kernel
theorem dX8_twins_107 : decode cX8_twins 107 = .ok (.iload_n 3, 1) := by decide +kernel
theorem dX8_twins_108 : decode cX8_twins 108 = .ok (.goto 5, 3) := by decide +kernel
theorem dX8_twins_111 : decode cX8_twins 111 = .ok (.iload 4, 2) := by decide +kernel
theorem dX8_twins_113 : decode cX8_twins 113 = .ok (.ireturn, 1) := by decide +kernel
theorem dX8_lend_0 : decode cX8_lend 0 = .ok (.aload_n 0, 1) := by decide +kernel
theorem dX8_lend_1 : decode cX8_lend 1 = .ok (.iload_n 1, 1) := by decide +kernel
theorem dX8_lend_2 : decode cX8_lend 2 = .ok (.invokevirtual 96, 3) := by decide +kernel
theorem dX8_lend_5 : decode cX8_lend 5 = .ok (.iload_n 2, 1) := by decide +kernel
theorem dX8_lend_6 : decode cX8_lend 6 = .ok (.iconst 0, 1) := by decide +kernel
theorem dX8_lend_7 : decode cX8_lend 7 = .ok (.bipush 24, 2) := by decide +kernel
theorem dX8_lend_9 : decode cX8_lend 9 = .ok (.invokestatic 73, 3) := by decide +kernel
theorem dX8_lend_12 : decode cX8_lend 12 = .ok (.iload_n 3, 1) := by decide +kernel
theorem dX8_lend_13 : decode cX8_lend 13 = .ok (.iconst 2, 1) := by decide +kernel
theorem dX8_lend_14 : decode cX8_lend 14 = .ok (.invokestatic 99, 3) := by decide +kernel
theorem dX8_lend_17 : decode cX8_lend 17 = .ok (.invokestatic 154, 3) := by decide +kernel
theorem dX8_lend_20 : decode cX8_lend 20 = .ok (.istore 4, 2) := by decide +kernel
theorem dX8_lend_22 : decode cX8_lend 22 = .ok (.iload 4, 2) := by decide +kernel
theorem dX8_lend_24 : decode cX8_lend 24 = .ok (.ifCond .eq 10, 3) := by decide +kernel
theorem dX8_lend_27 : decode cX8_lend 27 = .ok (.aload_n 0, 1) := by decide +kernel
theorem dX8_lend_28 : decode cX8_lend 28 = .ok (.iload 4, 2) := by decide +kernel
theorem dX8_lend_30 : decode cX8_lend 30 = .ok (.invokevirtual 77, 3) := by decide +kernel
theorem dX8_lend_33 : decode cX8_lend 33 = .ok (.ireturn, 1) := by decide +kernel
theorem dX8_lend_34 : decode cX8_lend 34 = .ok (.aload_n 0, 1) := by decide +kernel
theorem dX8_lend_35 : decode cX8_lend 35 = .ok (.getfield 30, 3) := by decide +kernel
theorem dX8_lend_38 : decode cX8_lend 38 = .ok (.iload_n 1, 1) := by decide +kernel
theorem dX8_lend_39 : decode cX8_lend 39 = .ok (.invokevirtual 189, 3) := by decide +kernel
theorem dX8_lend_42 : decode cX8_lend 42 = .ok (.ifCond .ne 10, 3) := by decide +kernel
theorem dX8_lend_45 : decode cX8_lend 45 = .ok (.aload_n 0, 1) := by decide +kernel
theorem dX8_lend_46 : decode cX8_lend 46 = .ok (.bipush (-3), 2) := by decide +kernel
theorem dX8_lend_48 : decode cX8_lend 48 = .ok (.invokevirtual 77, 3) := by decide +kernel
theorem dX8_lend_51 : decode cX8_lend 51 = .ok (.ireturn, 1) := by decide +kernel
theorem dX8_lend_52 : decode cX8_lend 52 = .ok (.aload_n 0, 1) := by decide +kernel
theorem dX8_lend_53 : decode cX8_lend 53 = .ok (.iload_n 1, 1) := by decide +kernel
theorem dX8_lend_54 : decode cX8_lend 54 = .ok (.iload_n 2, 1) := by decide +kernel
theorem dX8_lend_55 : decode cX8_lend 55 = .ok (.iconst 1, 1) := by decide +kernel
theorem dX8_lend_56 : decode cX8_lend 56 = .ok (.iload_n 3, 1) := by decide +kernel
theorem dX8_lend_57 : decode cX8_lend 57 = .ok (.ifCond .ne 7, 3) := by decide +kernel
theorem dX8_lend_60 : decode cX8_lend 60 = .ok (.iconst 1, 1) := by decide +kernel
theorem dX8_lend_61 : decode cX8_lend 61 = .ok (.goto 4, 3) := by decide +kernel
theorem dX8_lend_64 : decode cX8_lend 64 = .ok (.iconst (-1), 1) := by decide +kernel
theorem dX8_lend_65 : decode cX8_lend 65 = .ok (.invokevirtual 210, 3) := by decide +kernel
theorem dX8_lend_68 : decode cX8_lend 68 = .ok (.ireturn, 1) := by decide +kernel
theorem dX8_take_0 : decode cX8_take 0 = .ok (.aload_n 0, 1) := by decide +kernel
theorem dX8_take_1 : decode cX8_take 1 = .ok (.iload_n 1, 1) := by decide +kernel
theorem dX8_take_2 : decode cX8_take 2 = .ok (.invokevirtual 96, 3) := by decide +kernel
theorem dX8_take_5 : decode cX8_take 5 = .ok (.iload_n 2, 1) := by decide +kernel
theorem dX8_take_6 : decode cX8_take 6 = .ok (.iconst 0, 1) := by decide +kernel
theorem dX8_take_7 : decode cX8_take 7 = .ok (.bipush 24, 2) := by decide +kernel
theorem dX8_take_9 : decode cX8_take 9 = .ok (.invokestatic 73, 3) := by decide +kernel
theorem dX8_take_12 : decode cX8_take 12 = .ok (.invokestatic 103, 3) := by decide +kernel
theorem dX8_take_15 : decode cX8_take 15 = .ok (.istore_n 3, 1) := by decide +kernel
theorem dX8_take_16 : decode cX8_take 16 = .ok (.iload_n 3, 1) := by decide +kernel
theorem dX8_take_17 : decode cX8_take 17 = .ok (.ifCond .eq 9, 3) := by decide +kernel
theorem dX8_take_20 : decode cX8_take 20 = .ok (.aload_n 0, 1) := by decide +kernel
theorem dX8_take_21 : decode cX8_take 21 = .ok (.iload_n 3, 1) := by decide +kernel
theorem dX8_take_22 : decode cX8_take 22 = .ok (.invokevirtual 77, 3) := by decide +kernel
theorem dX8_take_25 : decode cX8_take 25 = .ok (.ireturn, 1) := by decide +kernel
theorem dX8_take_26 : decode cX8_take 26 = .ok (.aload_n 0, 1) := by decide +kernel
theorem dX8_take_27 : decode cX8_take 27 = .ok (.getfield 30, 3) := by decide +kernel
theorem dX8_take_30 : decode cX8_take 30 = .ok (.iload_n 1, 1) := by decide +kernel
theorem dX8_take_31 : decode cX8_take 31 = .ok (.invokevirtual 189, 3) := by decide +kernel
theorem dX8_take_34 : decode cX8_take 34 = .ok (.ifCond .ne 10, 3) := by decide +kernel
theorem dX8_take_37 : decode cX8_take 37 = .ok (.aload_n 0, 1) := by decide +kernel
theorem dX8_take_38 : decode cX8_take 38 = .ok (.bipush (-3), 2) := by decide +kernel
theorem dX8_take_40 : decode cX8_take 40 = .ok (.invokevirtual 77, 3) := by decide +kernel
theorem dX8_take_43 : decode cX8_take 43 = .ok (.ireturn, 1) := by decide +kernel
theorem dX8_take_44 : decode cX8_take 44 = .ok (.aload_n 0, 1) := by decide +kernel
theorem dX8_take_45 : decode cX8_take 45 = .ok (.iload_n 1, 1) := by decide +kernel
theorem dX8_take_46 : decode cX8_take 46 = .ok (.iload_n 2, 1) := by decide +kernel
theorem dX8_take_47 : decode cX8_take 47 = .ok (.iconst 0, 1) := by decide +kernel
theorem dX8_take_48 : decode cX8_take 48 = .ok (.iconst 1, 1) := by decide +kernel
theorem dX8_take_49 : decode cX8_take 49 = .ok (.invokevirtual 210, 3) := by decide +kernel
theorem dX8_take_52 : decode cX8_take 52 = .ok (.ireturn, 1) := by decide +kernel
theorem dX8_bestPartner_0 : decode cX8_bestPartner 0 = .ok (.aload_n 0, 1) := by decide +kernel
theorem dX8_bestPartner_1 : decode cX8_bestPartner 1 = .ok (.iload_n 2, 1) := by decide +kernel
theorem dX8_bestPartner_2 : decode cX8_bestPartner 2 = .ok (.invokevirtual 170, 3) := by decide +kernel
theorem dX8_bestPartner_5 : decode cX8_bestPartner 5 = .ok (.iload 4, 2) := by decide +kernel
theorem dX8_bestPartner_7 : decode cX8_bestPartner 7 = .ok (.aload_n 0, 1) := by decide +kernel
theorem dX8_bestPartner_8 : decode cX8_bestPartner 8 = .ok (.getfield 36, 3) := by decide +kernel
theorem dX8_bestPartner_11 : decode cX8_bestPartner 11 = .ok (.iload_n 1, 1) := by decide +kernel
theorem dX8_bestPartner_12 : decode cX8_bestPartner 12 = .ok (.invokevirtual 124, 3) := by decide +kernel
theorem dX8_bestPartner_15 : decode cX8_bestPartner 15 = .ok (.imul, 1) := by decide +kernel
theorem dX8_bestPartner_16 : decode cX8_bestPartner 16 = .ok (.istore 5, 2) := by decide +kernel
theorem dX8_bestPartner_18 : decode cX8_bestPartner 18 = .ok (.bipush (-9), 2) := by decide +kernel
theorem dX8_bestPartner_20 : decode cX8_bestPartner 20 = .ok (.istore 6, 2) := by decide +kernel
theorem dX8_bestPartner_22 : decode cX8_bestPartner 22 = .ok (.iconst 0, 1) := by decide +kernel
theorem dX8_bestPartner_23 : decode cX8_bestPartner 23 = .ok (.istore 7, 2) := by decide +kernel
theorem dX8_bestPartner_25 : decode cX8_bestPartner 25 = .ok (.iload 7, 2) := by decide +kernel
theorem dX8_bestPartner_27 : decode cX8_bestPartner 27 = .ok (.aload_n 0, 1) := by decide +kernel
theorem dX8_bestPartner_28 : decode cX8_bestPartner 28 = .ok (.getfield 30, 3) := by decide +kernel
theorem dX8_bestPartner_31 : decode cX8_bestPartner 31 = .ok (.getfield 192, 3) := by decide +kernel
theorem dX8_bestPartner_34 : decode cX8_bestPartner 34 = .ok (.if_icmp .ge 75, 3) := by decide +kernel
theorem dX8_bestPartner_37 : decode cX8_bestPartner 37 = .ok (.aload_n 0, 1) := by decide +kernel
theorem dX8_bestPartner_38 : decode cX8_bestPartner 38 = .ok (.getfield 30, 3) := by decide +kernel
theorem dX8_bestPartner_41 : decode cX8_bestPartner 41 = .ok (.iload_n 1, 1) := by decide +kernel
theorem dX8_bestPartner_42 : decode cX8_bestPartner 42 = .ok (.iload 7, 2) := by decide +kernel
theorem dX8_bestPartner_44 : decode cX8_bestPartner 44 = .ok (.invokevirtual 130, 3) := by decide +kernel
theorem dX8_bestPartner_47 : decode cX8_bestPartner 47 = .ok (.ifCond .eq 56, 3) := by decide +kernel
theorem dX8_bestPartner_50 : decode cX8_bestPartner 50 = .ok (.aload_n 0, 1) := by decide +kernel
theorem dX8_bestPartner_51 : decode cX8_bestPartner 51 = .ok (.iload_n 3, 1) := by decide +kernel
theorem dX8_bestPartner_52 : decode cX8_bestPartner 52 = .ok (.ifCond .eq 7, 3) := by decide +kernel
theorem dX8_bestPartner_55 : decode cX8_bestPartner 55 = .ok (.iload_n 1, 1) := by decide +kernel
theorem dX8_bestPartner_56 : decode cX8_bestPartner 56 = .ok (.goto 5, 3) := by decide +kernel
theorem dX8_bestPartner_59 : decode cX8_bestPartner 59 = .ok (.iload 7, 2) := by decide +kernel
theorem dX8_bestPartner_61 : decode cX8_bestPartner 61 = .ok (.iload_n 3, 1) := by decide +kernel
theorem dX8_bestPartner_62 : decode cX8_bestPartner 62 = .ok (.ifCond .eq 8, 3) := by decide +kernel
theorem dX8_bestPartner_65 : decode cX8_bestPartner 65 = .ok (.iload 7, 2) := by decide +kernel
theorem dX8_bestPartner_67 : decode cX8_bestPartner 67 = .ok (.goto 4, 3) := by decide +kernel
theorem dX8_bestPartner_70 : decode cX8_bestPartner 70 = .ok (.iload_n 1, 1) := by decide +kernel
theorem dX8_bestPartner_71 : decode cX8_bestPartner 71 = .ok (.iload_n 2, 1) := by decide +kernel
theorem dX8_bestPartner_72 : decode cX8_bestPartner 72 = .ok (.invokevirtual 214, 3) := by decide +kernel
theorem dX8_bestPartner_75 : decode cX8_bestPartner 75 = .ok (.iload 4, 2) := by decide +kernel
theorem dX8_bestPartner_77 : decode cX8_bestPartner 77 = .ok (.aload_n 0, 1) := by decide +kernel
theorem dX8_bestPartner_78 : decode cX8_bestPartner 78 = .ok (.getfield 36, 3) := by decide +kernel
theorem dX8_bestPartner_81 : decode cX8_bestPartner 81 = .ok (.iload_n 1, 1) := by decide +kernel
theorem dX8_bestPartner_82 : decode cX8_bestPartner 82 = .ok (.invokevirtual 124, 3) := by decide +kernel
theorem dX8_bestPartner_85 : decode cX8_bestPartner 85 = .ok (.imul, 1) := by decide +kernel
theorem dX8_bestPartner_86 : decode cX8_bestPartner 86 = .ok (.istore 8, 2) := by decide +kernel
theorem dX8_bestPartner_88 : decode cX8_bestPartner 88 = .ok (.iload 8, 2) := by decide +kernel
theorem dX8_bestPartner_90 : decode cX8_bestPartner 90 = .ok (.iload 5, 2) := by decide +kernel
theorem dX8_bestPartner_92 : decode cX8_bestPartner 92 = .ok (.if_icmp .le 11, 3) := by decide +kernel
theorem dX8_bestPartner_95 : decode cX8_bestPartner 95 = .ok (.iload 8, 2) := by decide +kernel
theorem dX8_bestPartner_97 : decode cX8_bestPartner 97 = .ok (.istore 5, 2) := by decide +kernel
theorem dX8_bestPartner_99 : decode cX8_bestPartner 99 = .ok (.iload 7, 2) := by decide +kernel
theorem dX8_bestPartner_101 : decode cX8_bestPartner 101 = .ok (.istore 6, 2) := by decide +kernel
theorem dX8_bestPartner_103 : decode cX8_bestPartner 103 = .ok (.iinc 7 1, 3) := by decide +kernel
theorem dX8_bestPartner_106 : decode cX8_bestPartner 106 = .ok (.goto (-81), 3) := by decide +kernel
theorem dX8_bestPartner_109 : decode cX8_bestPartner 109 = .ok (.iload 6, 2) := by decide +kernel
theorem dX8_bestPartner_111 : decode cX8_bestPartner 111 = .ok (.ireturn, 1) := by decide +kernel
theorem dX8_thinkOfLending_0 : decode cX8_thinkOfLending 0 = .ok (.aload_n 0, 1) := by decide +kernel
theorem dX8_thinkOfLending_1 : decode cX8_thinkOfLending 1 = .ok (.getfield 36, 3) := by decide +kernel
theorem dX8_thinkOfLending_4 : decode cX8_thinkOfLending 4 = .ok (.aload_n 0, 1) := by decide +kernel
theorem dX8_thinkOfLending_5 : decode cX8_thinkOfLending 5 = .ok (.getfield 30, 3) := by decide +kernel
theorem dX8_thinkOfLending_8 : decode cX8_thinkOfLending 8 = .ok (.invokevirtual 88, 3) := by decide +kernel
theorem dX8_thinkOfLending_11 : decode cX8_thinkOfLending 11 = .ok (.aload_n 0, 1) := by decide +kernel
theorem dX8_thinkOfLending_12 : decode cX8_thinkOfLending 12 = .ok (.getfield 36, 3) := by decide +kernel
theorem dX8_thinkOfLending_15 : decode cX8_thinkOfLending 15 = .ok (.iload_n 1, 1) := by decide +kernel
theorem dX8_thinkOfLending_16 : decode cX8_thinkOfLending 16 = .ok (.iload_n 2, 1) := by decide +kernel
theorem dX8_thinkOfLending_17 : decode cX8_thinkOfLending 17 = .ok (.invokevirtual 134, 3) := by decide +kernel
theorem dX8_thinkOfLending_20 : decode cX8_thinkOfLending 20 = .ok (.aload_n 0, 1) := by decide +kernel
theorem dX8_thinkOfLending_21 : decode cX8_thinkOfLending 21 = .ok (.getfield 36, 3) := by decide +kernel
theorem dX8_thinkOfLending_24 : decode cX8_thinkOfLending 24 = .ok (.iload_n 3, 1) := by decide +kernel
theorem dX8_thinkOfLending_25 : decode cX8_thinkOfLending 25 = .ok (.invokevirtual 166, 3) := by decide +kernel
theorem dX8_thinkOfLending_28 : decode cX8_thinkOfLending 28 = .ok (.return_, 1) := by decide +kernel
theorem dX8_keep_0 : decode cX8_keep 0 = .ok (.iload_n 1, 1) := by decide +kernel
theorem dX8_keep_1 : decode cX8_keep 1 = .ok (.iconst 0, 1) := by decide +kernel
theorem dX8_keep_2 : decode cX8_keep 2 = .ok (.bipush 24, 2) := by decide +kernel
theorem dX8_keep_4 : decode cX8_keep 4 = .ok (.invokestatic 73, 3) := by decide +kernel
theorem dX8_keep_7 : decode cX8_keep 7 = .ok (.istore_n 2, 1) := by decide +kernel
theorem dX8_keep_8 : decode cX8_keep 8 = .ok (.iload_n 2, 1) := by decide +kernel
theorem dX8_keep_9 : decode cX8_keep 9 = .ok (.ifCond .eq 9, 3) := by decide +kernel
theorem dX8_keep_12 : decode cX8_keep 12 = .ok (.aload_n 0, 1) := by decide +kernel
theorem dX8_keep_13 : decode cX8_keep 13 = .ok (.iload_n 2, 1) := by decide +kernel
theorem dX8_keep_14 : decode cX8_keep 14 = .ok (.invokevirtual 77, 3) := by decide +kernel
theorem dX8_keep_17 : decode cX8_keep 17 = .ok (.ireturn, 1) := by decide +kernel
theorem dX8_keep_18 : decode cX8_keep 18 = .ok (.aload_n 0, 1) := by decide +kernel
theorem dX8_keep_19 : decode cX8_keep 19 = .ok (.iload_n 1, 1) := by decide +kernel
theorem dX8_keep_20 : decode cX8_keep 20 = .ok (.invokevirtual 170, 3) := by decide +kernel
theorem dX8_keep_23 : decode cX8_keep 23 = .ok (.aload_n 0, 1) := by decide +kernel
theorem dX8_keep_24 : decode cX8_keep 24 = .ok (.getfield 36, 3) := by decide +kernel
theorem dX8_keep_27 : decode cX8_keep 27 = .ok (.invokevirtual 218, 3) := by decide +kernel
theorem dX8_keep_30 : decode cX8_keep 30 = .ok (.istore_n 3, 1) := by decide +kernel
theorem dX8_keep_31 : decode cX8_keep 31 = .ok (.bipush (-9), 2) := by decide +kernel
theorem dX8_keep_33 : decode cX8_keep 33 = .ok (.istore 4, 2) := by decide +kernel
theorem dX8_keep_35 : decode cX8_keep 35 = .ok (.iconst 0, 1) := by decide +kernel
theorem dX8_keep_36 : decode cX8_keep 36 = .ok (.istore 5, 2) := by decide +kernel
theorem dX8_keep_38 : decode cX8_keep 38 = .ok (.iload 5, 2) := by decide +kernel
theorem dX8_keep_40 : decode cX8_keep 40 = .ok (.aload_n 0, 1) := by decide +kernel
theorem dX8_keep_41 : decode cX8_keep 41 = .ok (.getfield 30, 3) := by decide +kernel
theorem dX8_keep_44 : decode cX8_keep 44 = .ok (.getfield 192, 3) := by decide +kernel
theorem dX8_keep_47 : decode cX8_keep 47 = .ok (.if_icmp .ge 73, 3) := by decide +kernel
theorem dX8_keep_50 : decode cX8_keep 50 = .ok (.aload_n 0, 1) := by decide +kernel
theorem dX8_keep_51 : decode cX8_keep 51 = .ok (.getfield 30, 3) := by decide +kernel
theorem dX8_keep_54 : decode cX8_keep 54 = .ok (.iload 5, 2) := by decide +kernel
theorem dX8_keep_56 : decode cX8_keep 56 = .ok (.invokevirtual 142, 3) := by decide +kernel
theorem dX8_keep_59 : decode cX8_keep 59 = .ok (.ifCond .eq 55, 3) := by decide +kernel
theorem dX8_keep_62 : decode cX8_keep 62 = .ok (.aload_n 0, 1) := by decide +kernel
theorem dX8_keep_63 : decode cX8_keep 63 = .ok (.getfield 36, 3) := by decide +kernel
theorem dX8_keep_66 : decode cX8_keep 66 = .ok (.aload_n 0, 1) := by decide +kernel
theorem dX8_keep_67 : decode cX8_keep 67 = .ok (.getfield 30, 3) := by decide +kernel
theorem dX8_keep_70 : decode cX8_keep 70 = .ok (.invokevirtual 88, 3) := by decide +kernel
theorem dX8_keep_73 : decode cX8_keep 73 = .ok (.aload_n 0, 1) := by decide +kernel
theorem dX8_keep_74 : decode cX8_keep 74 = .ok (.getfield 36, 3) := by decide +kernel
theorem dX8_keep_77 : decode cX8_keep 77 = .ok (.iload 5, 2) := by decide +kernel
theorem dX8_keep_79 : decode cX8_keep 79 = .ok (.invokevirtual 145, 3) := by decide +kernel
theorem dX8_keep_82 : decode cX8_keep 82 = .ok (.pop, 1) := by decide +kernel
theorem dX8_keep_83 : decode cX8_keep 83 = .ok (.aload_n 0, 1) := by decide +kernel
theorem dX8_keep_84 : decode cX8_keep 84 = .ok (.getfield 36, 3) := by decide +kernel
theorem dX8_keep_87 : decode cX8_keep 87 = .ok (.iload_n 1, 1) := by decide +kernel
theorem dX8_keep_88 : decode cX8_keep 88 = .ok (.invokevirtual 166, 3) := by decide +kernel
theorem dX8_keep_91 : decode cX8_keep 91 = .ok (.aload_n 0, 1) := by decide +kernel
theorem dX8_keep_92 : decode cX8_keep 92 = .ok (.getfield 36, 3) := by decide +kernel
theorem dX8_keep_95 : decode cX8_keep 95 = .ok (.invokevirtual 218, 3) := by decide +kernel
theorem dX8_keep_98 : decode cX8_keep 98 = .ok (.iload_n 3, 1) := by decide +kernel
theorem dX8_keep_99 : decode cX8_keep 99 = .ok (.if_icmp .le 15, 3) := by decide +kernel
theorem dX8_keep_102 : decode cX8_keep 102 = .ok (.aload_n 0, 1) := by decide +kernel
theorem dX8_keep_103 : decode cX8_keep 103 = .ok (.getfield 36, 3) := by decide +kernel
theorem dX8_keep_106 : decode cX8_keep 106 = .ok (.invokevirtual 218, 3) := by decide +kernel
theorem dX8_keep_109 : decode cX8_keep 109 = .ok (.istore_n 3, 1) := by decide +kernel
theorem dX8_keep_110 : decode cX8_keep 110 = .ok (.iload 5, 2) := by decide +kernel
theorem dX8_keep_112 : decode cX8_keep 112 = .ok (.istore 4, 2) := by decide +kernel
theorem dX8_keep_114 : decode cX8_keep 114 = .ok (.iinc 5 1, 3) := by decide +kernel
theorem dX8_keep_117 : decode cX8_keep 117 = .ok (.goto (-79), 3) := by decide +kernel
theorem dX8_keep_120 : decode cX8_keep 120 = .ok (.iload 4, 2) := by decide +kernel
theorem dX8_keep_122 : decode cX8_keep 122 = .ok (.ireturn, 1) := by decide +kernel
theorem dX8_lot_0 : decode cX8_lot 0 = .ok (.iload_n 1, 1) := by decide +kernel
theorem dX8_lot_1 : decode cX8_lot 1 = .ok (.iconst 2, 1) := by decide +kernel
theorem dX8_lot_2 : decode cX8_lot 2 = .ok (.invokestatic 99, 3) := by decide +kernel
theorem dX8_lot_5 : decode cX8_lot 5 = .ok (.istore_n 2, 1) := by decide +kernel
theorem dX8_lot_6 : decode cX8_lot 6 = .ok (.iload_n 2, 1) := by decide +kernel
theorem dX8_lot_7 : decode cX8_lot 7 = .ok (.ifCond .eq 9, 3) := by decide +kernel
theorem dX8_lot_10 : decode cX8_lot 10 = .ok (.aload_n 0, 1) := by decide +kernel
theorem dX8_lot_11 : decode cX8_lot 11 = .ok (.iload_n 2, 1) := by decide +kernel
theorem dX8_lot_12 : decode cX8_lot 12 = .ok (.invokevirtual 121, 3) := by decide +kernel
theorem dX8_lot_15 : decode cX8_lot 15 = .ok (.ireturn, 1) := by decide +kernel
theorem dX8_lot_16 : decode cX8_lot 16 = .ok (.aload_n 0, 1) := by decide +kernel
theorem dX8_lot_17 : decode cX8_lot 17 = .ok (.invokevirtual 221, 3) := by decide +kernel
theorem dX8_lot_20 : decode cX8_lot 20 = .ok (.iconst 2, 1) := by decide +kernel
theorem dX8_lot_21 : decode cX8_lot 21 = .ok (.idiv, 1) := by decide +kernel
theorem dX8_lot_22 : decode cX8_lot 22 = .ok (.istore_n 3, 1) := by decide +kernel
theorem dX8_lot_23 : decode cX8_lot 23 = .ok (.iconst 0, 1) := by decide +kernel
theorem dX8_lot_24 : decode cX8_lot 24 = .ok (.istore 4, 2) := by decide +kernel
theorem dX8_lot_26 : decode cX8_lot 26 = .ok (.aload_n 0, 1) := by decide +kernel
theorem dX8_lot_27 : decode cX8_lot 27 = .ok (.iconst 0, 1) := by decide +kernel
theorem dX8_lot_28 : decode cX8_lot 28 = .ok (.iload_n 3, 1) := by decide +kernel
theorem dX8_lot_29 : decode cX8_lot 29 = .ok (.invokevirtual 224, 3) := by decide +kernel
theorem dX8_lot_32 : decode cX8_lot 32 = .ok (.istore 5, 2) := by decide +kernel
theorem dX8_lot_34 : decode cX8_lot 34 = .ok (.iconst 1, 1) := by decide +kernel
theorem dX8_lot_35 : decode cX8_lot 35 = .ok (.istore 6, 2) := by decide +kernel
theorem dX8_lot_37 : decode cX8_lot 37 = .ok (.iload 6, 2) := by decide +kernel
theorem dX8_lot_39 : decode cX8_lot 39 = .ok (.iconst 1, 1) := by decide +kernel
theorem dX8_lot_40 : decode cX8_lot 40 = .ok (.iload_n 3, 1) := by decide +kernel
theorem dX8_lot_41 : decode cX8_lot 41 = .ok (.ishl, 1) := by decide +kernel
theorem dX8_lot_42 : decode cX8_lot 42 = .ok (.if_icmp .ge 33, 3) := by decide +kernel
theorem dX8_lot_45 : decode cX8_lot 45 = .ok (.aload_n 0, 1) := by decide +kernel
theorem dX8_lot_46 : decode cX8_lot 46 = .ok (.iload 6, 2) := by decide +kernel
theorem dX8_lot_48 : decode cX8_lot 48 = .ok (.iload_n 3, 1) := by decide +kernel
theorem dX8_lot_49 : decode cX8_lot 49 = .ok (.invokevirtual 224, 3) := by decide +kernel
theorem dX8_lot_52 : decode cX8_lot 52 = .ok (.istore 7, 2) := by decide +kernel
theorem dX8_lot_54 : decode cX8_lot 54 = .ok (.iload 7, 2) := by decide +kernel
theorem dX8_lot_56 : decode cX8_lot 56 = .ok (.iload 5, 2) := by decide +kernel
theorem dX8_lot_58 : decode cX8_lot 58 = .ok (.if_icmp .le 11, 3) := by decide +kernel
theorem dX8_lot_61 : decode cX8_lot 61 = .ok (.iload 7, 2) := by decide +kernel
theorem dX8_lot_63 : decode cX8_lot 63 = .ok (.istore 5, 2) := by decide +kernel
theorem dX8_lot_65 : decode cX8_lot 65 = .ok (.iload 6, 2) := by decide +kernel
theorem dX8_lot_67 : decode cX8_lot 67 = .ok (.istore 4, 2) := by decide +kernel
theorem dX8_lot_69 : decode cX8_lot 69 = .ok (.iinc 6 1, 3) := by decide +kernel
theorem dX8_lot_72 : decode cX8_lot 72 = .ok (.goto (-35), 3) := by decide +kernel
theorem dX8_lot_75 : decode cX8_lot 75 = .ok (.iload_n 1, 1) := by decide +kernel
theorem dX8_lot_76 : decode cX8_lot 76 = .ok (.ifCond .ne 8, 3) := by decide +kernel
theorem dX8_lot_79 : decode cX8_lot 79 = .ok (.iload 4, 2) := by decide +kernel
theorem dX8_lot_81 : decode cX8_lot 81 = .ok (.goto 5, 3) := by decide +kernel
theorem dX8_lot_84 : decode cX8_lot 84 = .ok (.iload 5, 2) := by decide +kernel
theorem dX8_lot_86 : decode cX8_lot 86 = .ok (.ireturn, 1) := by decide +kernel
theorem dX8_findFree_0 : decode cX8_findFree 0 = .ok (.iconst 0, 1) := by decide +kernel
theorem dX8_findFree_1 : decode cX8_findFree 1 = .ok (.istore_n 1, 1) := by decide +kernel
theorem dX8_findFree_2 : decode cX8_findFree 2 = .ok (.iconst 0, 1) := by decide +kernel
theorem dX8_findFree_3 : decode cX8_findFree 3 = .ok (.istore_n 2, 1) := by decide +kernel
theorem dX8_findFree_4 : decode cX8_findFree 4 = .ok (.iload_n 2, 1) := by decide +kernel
theorem dX8_findFree_5 : decode cX8_findFree 5 = .ok (.aload_n 0, 1) := by decide +kernel
theorem dX8_findFree_6 : decode cX8_findFree 6 = .ok (.getfield 30, 3) := by decide +kernel
theorem dX8_findFree_9 : decode cX8_findFree 9 = .ok (.getfield 192, 3) := by decide +kernel
theorem dX8_findFree_12 : decode cX8_findFree 12 = .ok (.if_icmp .ge 30, 3) := by decide +kernel
theorem dX8_findFree_15 : decode cX8_findFree 15 = .ok (.aload_n 0, 1) := by decide +kernel
theorem dX8_findFree_16 : decode cX8_findFree 16 = .ok (.getfield 30, 3) := by decide +kernel
theorem dX8_findFree_19 : decode cX8_findFree 19 = .ok (.iload_n 2, 1) := by decide +kernel
theorem dX8_findFree_20 : decode cX8_findFree 20 = .ok (.invokevirtual 189, 3) := by decide +kernel
theorem dX8_findFree_23 : decode cX8_findFree 23 = .ok (.ifCond .eq 13, 3) := by decide +kernel
theorem dX8_findFree_26 : decode cX8_findFree 26 = .ok (.aload_n 0, 1) := by decide +kernel
theorem dX8_findFree_27 : decode cX8_findFree 27 = .ok (.getfield 56, 3) := by decide +kernel
theorem dX8_findFree_30 : decode cX8_findFree 30 = .ok (.iload_n 1, 1) := by decide +kernel
theorem dX8_findFree_31 : decode cX8_findFree 31 = .ok (.iload_n 2, 1) := by decide +kernel
theorem dX8_findFree_32 : decode cX8_findFree 32 = .ok (.iastore, 1) := by decide +kernel
theorem dX8_findFree_33 : decode cX8_findFree 33 = .ok (.iinc 1 1, 3) := by decide +kernel
theorem dX8_findFree_36 : decode cX8_findFree 36 = .ok (.iinc 2 1, 3) := by decide +kernel
theorem dX8_findFree_39 : decode cX8_findFree 39 = .ok (.goto (-35), 3) := by decide +kernel
theorem dX8_findFree_42 : decode cX8_findFree 42 = .ok (.iload_n 1, 1) := by decide +kernel
theorem dX8_findFree_43 : decode cX8_findFree 43 = .ok (.ireturn, 1) := by decide +kernel
theorem dX8_worthsOfLot_0 : decode cX8_worthsOfLot 0 = .ok (.aload_n 0, 1) := by decide +kernel
theorem dX8_worthsOfLot_1 : decode cX8_worthsOfLot 1 = .ok (.getfield 36, 3) := by decide +kernel
theorem dX8_worthsOfLot_4 : decode cX8_worthsOfLot 4 = .ok (.aload_n 0, 1) := by decide +kernel
theorem dX8_worthsOfLot_5 : decode cX8_worthsOfLot 5 = .ok (.getfield 30, 3) := by decide +kernel
theorem dX8_worthsOfLot_8 : decode cX8_worthsOfLot 8 = .ok (.invokevirtual 88, 3) := by decide +kernel
theorem dX8_worthsOfLot_11 : decode cX8_worthsOfLot 11 = .ok (.iconst 0, 1) := by decide +kernel
theorem dX8_worthsOfLot_12 : decode cX8_worthsOfLot 12 = .ok (.istore_n 3, 1) := by decide +kernel
theorem dX8_worthsOfLot_13 : decode cX8_worthsOfLot 13 = .ok (.iload_n 3, 1) := by decide +kernel
theorem dX8_worthsOfLot_14 : decode cX8_worthsOfLot 14 = .ok (.iload_n 2, 1) := by decide +kernel
theorem dX8_worthsOfLot_15 : decode cX8_worthsOfLot 15 = .ok (.if_icmp .ge 47, 3) := by decide +kernel
theorem dX8_worthsOfLot_18 : decode cX8_worthsOfLot 18 = .ok (.iload_n 1, 1) := by decide +kernel
theorem dX8_worthsOfLot_19 : decode cX8_worthsOfLot 19 = .ok (.iload_n 3, 1) := by decide +kernel
theorem dX8_worthsOfLot_20 : decode cX8_worthsOfLot 20 = .ok (.ishr, 1) := by decide +kernel
theorem dX8_worthsOfLot_21 : decode cX8_worthsOfLot 21 = .ok (.iconst 1, 1) := by decide +kernel
theorem dX8_worthsOfLot_22 : decode cX8_worthsOfLot 22 = .ok (.iand, 1) := by decide +kernel
theorem dX8_worthsOfLot_23 : decode cX8_worthsOfLot 23 = .ok (.istore 4, 2) := by decide +kernel
theorem dX8_worthsOfLot_25 : decode cX8_worthsOfLot 25 = .ok (.aload_n 0, 1) := by decide +kernel
theorem dX8_worthsOfLot_26 : decode cX8_worthsOfLot 26 = .ok (.getfield 36, 3) := by decide +kernel
theorem dX8_worthsOfLot_29 : decode cX8_worthsOfLot 29 = .ok (.aload_n 0, 1) := by decide +kernel
theorem dX8_worthsOfLot_30 : decode cX8_worthsOfLot 30 = .ok (.getfield 56, 3) := by decide +kernel
theorem dX8_worthsOfLot_33 : decode cX8_worthsOfLot 33 = .ok (.iconst 2, 1) := by decide +kernel
theorem dX8_worthsOfLot_34 : decode cX8_worthsOfLot 34 = .ok (.iload_n 3, 1) := by decide +kernel
theorem dX8_worthsOfLot_35 : decode cX8_worthsOfLot 35 = .ok (.imul, 1) := by decide +kernel
theorem dX8_worthsOfLot_36 : decode cX8_worthsOfLot 36 = .ok (.iload 4, 2) := by decide +kernel
theorem dX8_worthsOfLot_38 : decode cX8_worthsOfLot 38 = .ok (.iadd, 1) := by decide +kernel
theorem dX8_worthsOfLot_39 : decode cX8_worthsOfLot 39 = .ok (.iaload, 1) := by decide +kernel
theorem dX8_worthsOfLot_40 : decode cX8_worthsOfLot 40 = .ok (.aload_n 0, 1) := by decide +kernel
theorem dX8_worthsOfLot_41 : decode cX8_worthsOfLot 41 = .ok (.getfield 56, 3) := by decide +kernel
theorem dX8_worthsOfLot_44 : decode cX8_worthsOfLot 44 = .ok (.iconst 2, 1) := by decide +kernel
theorem dX8_worthsOfLot_45 : decode cX8_worthsOfLot 45 = .ok (.iload_n 3, 1) := by decide +kernel
theorem dX8_worthsOfLot_46 : decode cX8_worthsOfLot 46 = .ok (.imul, 1) := by decide +kernel
theorem dX8_worthsOfLot_47 : decode cX8_worthsOfLot 47 = .ok (.iconst 1, 1) := by decide +kernel
theorem dX8_worthsOfLot_48 : decode cX8_worthsOfLot 48 = .ok (.iadd, 1) := by decide +kernel
theorem dX8_worthsOfLot_49 : decode cX8_worthsOfLot 49 = .ok (.iload 4, 2) := by decide +kernel
theorem dX8_worthsOfLot_51 : decode cX8_worthsOfLot 51 = .ok (.isub, 1) := by decide +kernel
theorem dX8_worthsOfLot_52 : decode cX8_worthsOfLot 52 = .ok (.iaload, 1) := by decide +kernel
theorem dX8_worthsOfLot_53 : decode cX8_worthsOfLot 53 = .ok (.invokevirtual 134, 3) := by decide +kernel
theorem dX8_worthsOfLot_56 : decode cX8_worthsOfLot 56 = .ok (.iinc 3 1, 3) := by decide +kernel
theorem dX8_worthsOfLot_59 : decode cX8_worthsOfLot 59 = .ok (.goto (-46), 3) := by decide +kernel
theorem dX8_worthsOfLot_62 : decode cX8_worthsOfLot 62 = .ok (.aload_n 0, 1) := by decide +kernel
theorem dX8_worthsOfLot_63 : decode cX8_worthsOfLot 63 = .ok (.getfield 36, 3) := by decide +kernel
theorem dX8_worthsOfLot_66 : decode cX8_worthsOfLot 66 = .ok (.bipush 12, 2) := by decide +kernel
theorem dX8_worthsOfLot_68 : decode cX8_worthsOfLot 68 = .ok (.invokevirtual 166, 3) := by decide +kernel
theorem dX8_worthsOfLot_71 : decode cX8_worthsOfLot 71 = .ok (.aload_n 0, 1) := by decide +kernel
theorem dX8_worthsOfLot_72 : decode cX8_worthsOfLot 72 = .ok (.getfield 36, 3) := by decide +kernel
theorem dX8_worthsOfLot_75 : decode cX8_worthsOfLot 75 = .ok (.invokevirtual 218, 3) := by decide +kernel
theorem dX8_worthsOfLot_78 : decode cX8_worthsOfLot 78 = .ok (.ireturn, 1) := by decide +kernel
theorem dX8_fewest_0 : decode cX8_fewest 0 = .ok (.aload_n 0, 1) := by decide +kernel
theorem dX8_fewest_1 : decode cX8_fewest 1 = .ok (.iload_n 1, 1) := by decide +kernel
theorem dX8_fewest_2 : decode cX8_fewest 2 = .ok (.invokevirtual 96, 3) := by decide +kernel
theorem dX8_fewest_5 : decode cX8_fewest 5 = .ok (.iload_n 2, 1) := by decide +kernel
theorem dX8_fewest_6 : decode cX8_fewest 6 = .ok (.iconst 0, 1) := by decide +kernel
theorem dX8_fewest_7 : decode cX8_fewest 7 = .ok (.bipush 99, 2) := by decide +kernel
theorem dX8_fewest_9 : decode cX8_fewest 9 = .ok (.invokestatic 73, 3) := by decide +kernel
theorem dX8_fewest_12 : decode cX8_fewest 12 = .ok (.iload_n 3, 1) := by decide +kernel
theorem dX8_fewest_13 : decode cX8_fewest 13 = .ok (.iconst 2, 1) := by decide +kernel
theorem dX8_fewest_14 : decode cX8_fewest 14 = .ok (.invokestatic 99, 3) := by decide +kernel
theorem dX8_fewest_17 : decode cX8_fewest 17 = .ok (.invokestatic 154, 3) := by decide +kernel
theorem dX8_fewest_20 : decode cX8_fewest 20 = .ok (.istore 4, 2) := by decide +kernel
theorem dX8_fewest_22 : decode cX8_fewest 22 = .ok (.iload 4, 2) := by decide +kernel
theorem dX8_fewest_24 : decode cX8_fewest 24 = .ok (.ifCond .eq 10, 3) := by decide +kernel
theorem dX8_fewest_27 : decode cX8_fewest 27 = .ok (.aload_n 0, 1) := by decide +kernel
theorem dX8_fewest_28 : decode cX8_fewest 28 = .ok (.iload 4, 2) := by decide +kernel
theorem dX8_fewest_30 : decode cX8_fewest 30 = .ok (.invokevirtual 77, 3) := by decide +kernel
theorem dX8_fewest_33 : decode cX8_fewest 33 = .ok (.ireturn, 1) := by decide +kernel
theorem dX8_fewest_34 : decode cX8_fewest 34 = .ok (.aload_n 0, 1) := by decide +kernel
theorem dX8_fewest_35 : decode cX8_fewest 35 = .ok (.bipush 12, 2) := by decide +kernel
theorem dX8_fewest_37 : decode cX8_fewest 37 = .ok (.invokevirtual 170, 3) := by decide +kernel
theorem dX8_fewest_40 : decode cX8_fewest 40 = .ok (.aload_n 0, 1) := by decide +kernel
theorem dX8_fewest_41 : decode cX8_fewest 41 = .ok (.getfield 36, 3) := by decide +kernel
theorem dX8_fewest_44 : decode cX8_fewest 44 = .ok (.getfield 157, 3) := by decide +kernel
theorem dX8_fewest_47 : decode cX8_fewest 47 = .ok (.iload_n 1, 1) := by decide +kernel
theorem dX8_fewest_48 : decode cX8_fewest 48 = .ok (.iaload, 1) := by decide +kernel
theorem dX8_fewest_49 : decode cX8_fewest 49 = .ok (.iload_n 2, 1) := by decide +kernel
theorem dX8_fewest_50 : decode cX8_fewest 50 = .ok (.if_icmp .lt 14, 3) := by decide +kernel
theorem dX8_fewest_53 : decode cX8_fewest 53 = .ok (.iload_n 3, 1) := by decide +kernel
theorem dX8_fewest_54 : decode cX8_fewest 54 = .ok (.ifCond .ne 7, 3) := by decide +kernel
theorem dX8_fewest_57 : decode cX8_fewest 57 = .ok (.iconst 0, 1) := by decide +kernel
theorem dX8_fewest_58 : decode cX8_fewest 58 = .ok (.goto 5, 3) := by decide +kernel
theorem dX8_fewest_61 : decode cX8_fewest 61 = .ok (.bipush (-9), 2) := by decide +kernel
theorem dX8_fewest_63 : decode cX8_fewest 63 = .ok (.ireturn, 1) := by decide +kernel
theorem dX8_fewest_64 : decode cX8_fewest 64 = .ok (.aload_n 0, 1) := by decide +kernel
theorem dX8_fewest_65 : decode cX8_fewest 65 = .ok (.iload_n 1, 1) := by decide +kernel
theorem dX8_fewest_66 : decode cX8_fewest 66 = .ok (.iload_n 2, 1) := by decide +kernel
theorem dX8_fewest_67 : decode cX8_fewest 67 = .ok (.invokevirtual 227, 3) := by decide +kernel
theorem dX8_fewest_70 : decode cX8_fewest 70 = .ok (.istore 5, 2) := by decide +kernel
theorem dX8_fewest_72 : decode cX8_fewest 72 = .ok (.iload_n 3, 1) := by decide +kernel
theorem dX8_fewest_73 : decode cX8_fewest 73 = .ok (.ifCond .ne 14, 3) := by decide +kernel
theorem dX8_fewest_76 : decode cX8_fewest 76 = .ok (.iload 5, 2) := by decide +kernel
theorem dX8_fewest_78 : decode cX8_fewest 78 = .ok (.bipush (-9), 2) := by decide +kernel
theorem dX8_fewest_80 : decode cX8_fewest 80 = .ok (.if_icmp .eq 7, 3) := by decide +kernel
theorem dX8_fewest_83 : decode cX8_fewest 83 = .ok (.iconst 1, 1) := by decide +kernel
theorem dX8_fewest_84 : decode cX8_fewest 84 = .ok (.goto 5, 3) := by decide +kernel
theorem dX8_fewest_87 : decode cX8_fewest 87 = .ok (.iload 5, 2) := by decide +kernel
theorem dX8_fewest_89 : decode cX8_fewest 89 = .ok (.ireturn, 1) := by decide +kernel
theorem dX8_firstLenderBringing_0 : decode cX8_firstLenderBringing 0 = .ok (.iconst 0, 1) := by decide +kernel
theorem dX8_firstLenderBringing_1 : decode cX8_firstLenderBringing 1 = .ok (.istore_n 3, 1) := by decide +kernel
theorem dX8_firstLenderBringing_2 : decode cX8_firstLenderBringing 2 = .ok (.iload_n 3, 1) := by decide +kernel
theorem dX8_firstLenderBringing_3 : decode cX8_firstLenderBringing 3 = .ok (.aload_n 0, 1) := by decide +kernel
theorem dX8_firstLenderBringing_4 : decode cX8_firstLenderBringing 4 = .ok (.getfield 30, 3) := by decide +kernel
theorem dX8_firstLenderBringing_7 : decode cX8_firstLenderBringing 7 = .ok (.getfield 192, 3) := by decide +kernel
theorem dX8_firstLenderBringing_10 : decode cX8_firstLenderBringing 10 = .ok (.if_icmp .ge 67, 3) := by decide +kernel
theorem dX8_firstLenderBringing_13 : decode cX8_firstLenderBringing 13 = .ok (.iconst 0, 1) := by decide +kernel
theorem dX8_firstLenderBringing_14 : decode cX8_firstLenderBringing 14 = .ok (.istore 4, 2) := by decide +kernel
theorem dX8_firstLenderBringing_16 : decode cX8_firstLenderBringing 16 = .ok (.iload 4, 2) := by decide +kernel
theorem dX8_firstLenderBringing_18 : decode cX8_firstLenderBringing 18 = .ok (.aload_n 0, 1) := by decide +kernel
theorem dX8_firstLenderBringing_19 : decode cX8_firstLenderBringing 19 = .ok (.getfield 30, 3) := by decide +kernel
theorem dX8_firstLenderBringing_22 : decode cX8_firstLenderBringing 22 = .ok (.getfield 192, 3) := by decide +kernel
theorem dX8_firstLenderBringing_25 : decode cX8_firstLenderBringing 25 = .ok (.if_icmp .ge 46, 3) := by decide +kernel
theorem dX8_firstLenderBringing_28 : decode cX8_firstLenderBringing 28 = .ok (.aload_n 0, 1) := by decide +kernel
theorem dX8_firstLenderBringing_29 : decode cX8_firstLenderBringing 29 = .ok (.getfield 30, 3) := by decide +kernel
theorem dX8_firstLenderBringing_32 : decode cX8_firstLenderBringing 32 = .ok (.iload_n 3, 1) := by decide +kernel
theorem dX8_firstLenderBringing_33 : decode cX8_firstLenderBringing 33 = .ok (.iload 4, 2) := by decide +kernel
theorem dX8_firstLenderBringing_35 : decode cX8_firstLenderBringing 35 = .ok (.invokevirtual 130, 3) := by decide +kernel
theorem dX8_firstLenderBringing_38 : decode cX8_firstLenderBringing 38 = .ok (.ifCond .eq 27, 3) := by decide +kernel
theorem dX8_firstLenderBringing_41 : decode cX8_firstLenderBringing 41 = .ok (.aload_n 0, 1) := by decide +kernel
theorem dX8_firstLenderBringing_42 : decode cX8_firstLenderBringing 42 = .ok (.iload_n 3, 1) := by decide +kernel
theorem dX8_firstLenderBringing_43 : decode cX8_firstLenderBringing 43 = .ok (.iload 4, 2) := by decide +kernel
theorem dX8_firstLenderBringing_45 : decode cX8_firstLenderBringing 45 = .ok (.bipush 12, 2) := by decide +kernel
theorem dX8_firstLenderBringing_47 : decode cX8_firstLenderBringing 47 = .ok (.invokevirtual 214, 3) := by decide +kernel
theorem dX8_firstLenderBringing_50 : decode cX8_firstLenderBringing 50 = .ok (.aload_n 0, 1) := by decide +kernel
theorem dX8_firstLenderBringing_51 : decode cX8_firstLenderBringing 51 = .ok (.getfield 36, 3) := by decide +kernel
theorem dX8_firstLenderBringing_54 : decode cX8_firstLenderBringing 54 = .ok (.getfield 157, 3) := by decide +kernel
theorem dX8_firstLenderBringing_57 : decode cX8_firstLenderBringing 57 = .ok (.iload_n 1, 1) := by decide +kernel
theorem dX8_firstLenderBringing_58 : decode cX8_firstLenderBringing 58 = .ok (.iaload, 1) := by decide +kernel
theorem dX8_firstLenderBringing_59 : decode cX8_firstLenderBringing 59 = .ok (.iload_n 2, 1) := by decide +kernel
theorem dX8_firstLenderBringing_60 : decode cX8_firstLenderBringing 60 = .ok (.if_icmp .lt 5, 3) := by decide +kernel
theorem dX8_firstLenderBringing_63 : decode cX8_firstLenderBringing 63 = .ok (.iload_n 3, 1) := by decide +kernel
theorem dX8_firstLenderBringing_64 : decode cX8_firstLenderBringing 64 = .ok (.ireturn, 1) := by decide +kernel
theorem dX8_firstLenderBringing_65 : decode cX8_firstLenderBringing 65 = .ok (.iinc 4 1, 3) := by decide +kernel
theorem dX8_firstLenderBringing_68 : decode cX8_firstLenderBringing 68 = .ok (.goto (-52), 3) := by decide +kernel
theorem dX8_firstLenderBringing_71 : decode cX8_firstLenderBringing 71 = .ok (.iinc 3 1, 3) := by decide +kernel
theorem dX8_firstLenderBringing_74 : decode cX8_firstLenderBringing 74 = .ok (.goto (-72), 3) := by decide +kernel
theorem dX8_firstLenderBringing_77 : decode cX8_firstLenderBringing 77 = .ok (.bipush (-9), 2) := by decide +kernel
theorem dX8_firstLenderBringing_79 : decode cX8_firstLenderBringing 79 = .ok (.ireturn, 1) := by decide +kernel
theorem dX8_two_0 : decode cX8_two 0 = .ok (.aload_n 0, 1) := by decide +kernel
theorem dX8_two_1 : decode cX8_two 1 = .ok (.iload_n 1, 1) := by decide +kernel
theorem dX8_two_2 : decode cX8_two 2 = .ok (.iload_n 2, 1) := by decide +kernel
theorem dX8_two_3 : decode cX8_two 3 = .ok (.invokevirtual 127, 3) := by decide +kernel
theorem dX8_two_6 : decode cX8_two 6 = .ok (.iload_n 3, 1) := by decide +kernel
theorem dX8_two_7 : decode cX8_two 7 = .ok (.iconst 0, 1) := by decide +kernel
theorem dX8_two_8 : decode cX8_two 8 = .ok (.bipush 24, 2) := by decide +kernel
theorem dX8_two_10 : decode cX8_two 10 = .ok (.invokestatic 73, 3) := by decide +kernel
theorem dX8_two_13 : decode cX8_two 13 = .ok (.invokestatic 103, 3) := by decide +kernel
theorem dX8_two_16 : decode cX8_two 16 = .ok (.istore 4, 2) := by decide +kernel
theorem dX8_two_18 : decode cX8_two 18 = .ok (.iload 4, 2) := by decide +kernel
theorem dX8_two_20 : decode cX8_two 20 = .ok (.ifCond .eq 10, 3) := by decide +kernel
theorem dX8_two_23 : decode cX8_two 23 = .ok (.aload_n 0, 1) := by decide +kernel
theorem dX8_two_24 : decode cX8_two 24 = .ok (.iload 4, 2) := by decide +kernel
theorem dX8_two_26 : decode cX8_two 26 = .ok (.invokevirtual 77, 3) := by decide +kernel
theorem dX8_two_29 : decode cX8_two 29 = .ok (.ireturn, 1) := by decide +kernel
theorem dX8_two_30 : decode cX8_two 30 = .ok (.iconst 0, 1) := by decide +kernel
theorem dX8_two_31 : decode cX8_two 31 = .ok (.istore 5, 2) := by decide +kernel
theorem dX8_two_33 : decode cX8_two 33 = .ok (.iload 5, 2) := by decide +kernel
theorem dX8_two_35 : decode cX8_two 35 = .ok (.iconst 4, 1) := by decide +kernel
theorem dX8_two_36 : decode cX8_two 36 = .ok (.if_icmp .ge 114, 3) := by decide +kernel
theorem dX8_two_39 : decode cX8_two 39 = .ok (.aload_n 0, 1) := by decide +kernel
theorem dX8_two_40 : decode cX8_two 40 = .ok (.getfield 36, 3) := by decide +kernel
theorem dX8_two_43 : decode cX8_two 43 = .ok (.aload_n 0, 1) := by decide +kernel
theorem dX8_two_44 : decode cX8_two 44 = .ok (.getfield 30, 3) := by decide +kernel
theorem dX8_two_47 : decode cX8_two 47 = .ok (.invokevirtual 88, 3) := by decide +kernel
theorem dX8_two_50 : decode cX8_two 50 = .ok (.iload 5, 2) := by decide +kernel
theorem dX8_two_52 : decode cX8_two 52 = .ok (.iconst 2, 1) := by decide +kernel
theorem dX8_two_53 : decode cX8_two 53 = .ok (.if_icmp .lt 24, 3) := by decide +kernel
theorem dX8_two_56 : decode cX8_two 56 = .ok (.aload_n 0, 1) := by decide +kernel
theorem dX8_two_57 : decode cX8_two 57 = .ok (.getfield 36, 3) := by decide +kernel
theorem dX8_two_60 : decode cX8_two 60 = .ok (.iload_n 2, 1) := by decide +kernel
theorem dX8_two_61 : decode cX8_two 61 = .ok (.iload_n 1, 1) := by decide +kernel
theorem dX8_two_62 : decode cX8_two 62 = .ok (.invokevirtual 130, 3) := by decide +kernel
theorem dX8_two_65 : decode cX8_two 65 = .ok (.ifCond .eq 12, 3) := by decide +kernel
theorem dX8_two_68 : decode cX8_two 68 = .ok (.aload_n 0, 1) := by decide +kernel
theorem dX8_two_69 : decode cX8_two 69 = .ok (.getfield 36, 3) := by decide +kernel
theorem dX8_two_72 : decode cX8_two 72 = .ok (.iload_n 2, 1) := by decide +kernel
theorem dX8_two_73 : decode cX8_two 73 = .ok (.iload_n 1, 1) := by decide +kernel
theorem dX8_two_74 : decode cX8_two 74 = .ok (.invokevirtual 134, 3) := by decide +kernel
theorem dX8_two_77 : decode cX8_two 77 = .ok (.iload 5, 2) := by decide +kernel
theorem dX8_two_79 : decode cX8_two 79 = .ok (.iconst 2, 1) := by decide +kernel
theorem dX8_two_80 : decode cX8_two 80 = .ok (.irem, 1) := by decide +kernel
theorem dX8_two_81 : decode cX8_two 81 = .ok (.iconst 1, 1) := by decide +kernel
theorem dX8_two_82 : decode cX8_two 82 = .ok (.if_icmp .ne 24, 3) := by decide +kernel
theorem dX8_two_85 : decode cX8_two 85 = .ok (.aload_n 0, 1) := by decide +kernel
theorem dX8_two_86 : decode cX8_two 86 = .ok (.getfield 36, 3) := by decide +kernel
theorem dX8_two_89 : decode cX8_two 89 = .ok (.iload_n 1, 1) := by decide +kernel
theorem dX8_two_90 : decode cX8_two 90 = .ok (.iload_n 2, 1) := by decide +kernel
theorem dX8_two_91 : decode cX8_two 91 = .ok (.invokevirtual 130, 3) := by decide +kernel
theorem dX8_two_94 : decode cX8_two 94 = .ok (.ifCond .eq 12, 3) := by decide +kernel
theorem dX8_two_97 : decode cX8_two 97 = .ok (.aload_n 0, 1) := by decide +kernel
theorem dX8_two_98 : decode cX8_two 98 = .ok (.getfield 36, 3) := by decide +kernel
theorem dX8_two_101 : decode cX8_two 101 = .ok (.iload_n 1, 1) := by decide +kernel
theorem dX8_two_102 : decode cX8_two 102 = .ok (.iload_n 2, 1) := by decide +kernel
theorem dX8_two_103 : decode cX8_two 103 = .ok (.invokevirtual 134, 3) := by decide +kernel
theorem dX8_two_106 : decode cX8_two 106 = .ok (.aload_n 0, 1) := by decide +kernel
theorem dX8_two_107 : decode cX8_two 107 = .ok (.getfield 36, 3) := by decide +kernel
theorem dX8_two_110 : decode cX8_two 110 = .ok (.iload_n 3, 1) := by decide +kernel
theorem dX8_two_111 : decode cX8_two 111 = .ok (.invokevirtual 166, 3) := by decide +kernel
theorem dX8_two_114 : decode cX8_two 114 = .ok (.aload_n 0, 1) := by decide +kernel
theorem dX8_two_115 : decode cX8_two 115 = .ok (.getfield 59, 3) := by decide +kernel
theorem dX8_two_118 : decode cX8_two 118 = .ok (.iload 5, 2) := by decide +kernel
theorem dX8_two_120 : decode cX8_two 120 = .ok (.aload_n 0, 1) := by decide +kernel
theorem dX8_two_121 : decode cX8_two 121 = .ok (.getfield 36, 3) := by decide +kernel
theorem dX8_two_124 : decode cX8_two 124 = .ok (.iload_n 1, 1) := by decide +kernel
theorem dX8_two_125 : decode cX8_two 125 = .ok (.invokevirtual 124, 3) := by decide +kernel
theorem dX8_two_128 : decode cX8_two 128 = .ok (.iastore, 1) := by decide +kernel
theorem dX8_two_129 : decode cX8_two 129 = .ok (.aload_n 0, 1) := by decide +kernel
theorem dX8_two_130 : decode cX8_two 130 = .ok (.getfield 62, 3) := by decide +kernel
theorem dX8_two_133 : decode cX8_two 133 = .ok (.iload 5, 2) := by decide +kernel
theorem dX8_two_135 : decode cX8_two 135 = .ok (.aload_n 0, 1) := by decide +kernel
theorem dX8_two_136 : decode cX8_two 136 = .ok (.getfield 36, 3) := by decide +kernel
theorem dX8_two_139 : decode cX8_two 139 = .ok (.iload_n 2, 1) := by decide +kernel
theorem dX8_two_140 : decode cX8_two 140 = .ok (.invokevirtual 124, 3) := by decide +kernel
theorem dX8_two_143 : decode cX8_two 143 = .ok (.iastore, 1) := by decide +kernel
theorem dX8_two_144 : decode cX8_two 144 = .ok (.iinc 5 1, 3) := by decide +kernel
theorem dX8_two_147 : decode cX8_two 147 = .ok (.goto (-114), 3) := by decide +kernel
theorem dX8_two_150 : decode cX8_two 150 = .ok (.aload_n 0, 1) := by decide +kernel
theorem dX8_two_151 : decode cX8_two 151 = .ok (.invokevirtual 230, 3) := by decide +kernel
theorem dX8_two_154 : decode cX8_two 154 = .ok (.ireturn, 1) := by decide +kernel
theorem dX8_firstSettledChoice_0 : decode cX8_firstSettledChoice 0 = .ok (.iconst 0, 1) := by decide +kernel
theorem dX8_firstSettledChoice_1 : decode cX8_firstSettledChoice 1 = .ok (.istore_n 1, 1) := by decide +kernel
theorem dX8_firstSettledChoice_2 : decode cX8_firstSettledChoice 2 = .ok (.iload_n 1, 1) := by decide +kernel
theorem dX8_firstSettledChoice_3 : decode cX8_firstSettledChoice 3 = .ok (.iconst 4, 1) := by decide +kernel
theorem dX8_firstSettledChoice_4 : decode cX8_firstSettledChoice 4 = .ok (.if_icmp .ge 74, 3) := by decide +kernel
theorem dX8_firstSettledChoice_7 : decode cX8_firstSettledChoice 7 = .ok (.aload_n 0, 1) := by decide +kernel
theorem dX8_firstSettledChoice_8 : decode cX8_firstSettledChoice 8 = .ok (.getfield 59, 3) := by decide +kernel
theorem dX8_firstSettledChoice_11 : decode cX8_firstSettledChoice 11 = .ok (.iload_n 1, 1) := by decide +kernel
theorem dX8_firstSettledChoice_12 : decode cX8_firstSettledChoice 12 = .ok (.iconst 2, 1) := by decide +kernel
theorem dX8_firstSettledChoice_13 : decode cX8_firstSettledChoice 13 = .ok (.ixor, 1) := by decide +kernel
theorem dX8_firstSettledChoice_14 : decode cX8_firstSettledChoice 14 = .ok (.iaload, 1) := by decide +kernel
theorem dX8_firstSettledChoice_15 : decode cX8_firstSettledChoice 15 = .ok (.aload_n 0, 1) := by decide +kernel
theorem dX8_firstSettledChoice_16 : decode cX8_firstSettledChoice 16 = .ok (.getfield 59, 3) := by decide +kernel
theorem dX8_firstSettledChoice_19 : decode cX8_firstSettledChoice 19 = .ok (.iload_n 1, 1) := by decide +kernel
theorem dX8_firstSettledChoice_20 : decode cX8_firstSettledChoice 20 = .ok (.iaload, 1) := by decide +kernel
theorem dX8_firstSettledChoice_21 : decode cX8_firstSettledChoice 21 = .ok (.if_icmp .gt 7, 3) := by decide +kernel
theorem dX8_firstSettledChoice_24 : decode cX8_firstSettledChoice 24 = .ok (.iconst 1, 1) := by decide +kernel
theorem dX8_firstSettledChoice_25 : decode cX8_firstSettledChoice 25 = .ok (.goto 4, 3) := by decide +kernel
theorem dX8_firstSettledChoice_28 : decode cX8_firstSettledChoice 28 = .ok (.iconst 0, 1) := by decide +kernel
theorem dX8_firstSettledChoice_29 : decode cX8_firstSettledChoice 29 = .ok (.istore_n 2, 1) := by decide +kernel
theorem dX8_firstSettledChoice_30 : decode cX8_firstSettledChoice 30 = .ok (.aload_n 0, 1) := by decide +kernel
theorem dX8_firstSettledChoice_31 : decode cX8_firstSettledChoice 31 = .ok (.getfield 62, 3) := by decide +kernel
theorem dX8_firstSettledChoice_34 : decode cX8_firstSettledChoice 34 = .ok (.iload_n 1, 1) := by decide +kernel
theorem dX8_firstSettledChoice_35 : decode cX8_firstSettledChoice 35 = .ok (.iconst 1, 1) := by decide +kernel
theorem dX8_firstSettledChoice_36 : decode cX8_firstSettledChoice 36 = .ok (.ixor, 1) := by decide +kernel
theorem dX8_firstSettledChoice_37 : decode cX8_firstSettledChoice 37 = .ok (.iaload, 1) := by decide +kernel
theorem dX8_firstSettledChoice_38 : decode cX8_firstSettledChoice 38 = .ok (.aload_n 0, 1) := by decide +kernel
theorem dX8_firstSettledChoice_39 : decode cX8_firstSettledChoice 39 = .ok (.getfield 62, 3) := by decide +kernel
theorem dX8_firstSettledChoice_42 : decode cX8_firstSettledChoice 42 = .ok (.iload_n 1, 1) := by decide +kernel
theorem dX8_firstSettledChoice_43 : decode cX8_firstSettledChoice 43 = .ok (.iaload, 1) := by decide +kernel
theorem dX8_firstSettledChoice_44 : decode cX8_firstSettledChoice 44 = .ok (.if_icmp .gt 7, 3) := by decide +kernel
theorem dX8_firstSettledChoice_47 : decode cX8_firstSettledChoice 47 = .ok (.iconst 1, 1) := by decide +kernel
theorem dX8_firstSettledChoice_48 : decode cX8_firstSettledChoice 48 = .ok (.goto 4, 3) := by decide +kernel
theorem dX8_firstSettledChoice_51 : decode cX8_firstSettledChoice 51 = .ok (.iconst 0, 1) := by decide +kernel
theorem dX8_firstSettledChoice_52 : decode cX8_firstSettledChoice 52 = .ok (.istore_n 3, 1) := by decide +kernel
theorem dX8_firstSettledChoice_53 : decode cX8_firstSettledChoice 53 = .ok (.iload_n 2, 1) := by decide +kernel
theorem dX8_firstSettledChoice_54 : decode cX8_firstSettledChoice 54 = .ok (.ifCond .eq 18, 3) := by decide +kernel
theorem dX8_firstSettledChoice_57 : decode cX8_firstSettledChoice 57 = .ok (.iload_n 3, 1) := by decide +kernel
theorem dX8_firstSettledChoice_58 : decode cX8_firstSettledChoice 58 = .ok (.ifCond .eq 14, 3) := by decide +kernel
theorem dX8_firstSettledChoice_61 : decode cX8_firstSettledChoice 61 = .ok (.bipush 10, 2) := by decide +kernel
theorem dX8_firstSettledChoice_63 : decode cX8_firstSettledChoice 63 = .ok (.iload_n 1, 1) := by decide +kernel
theorem dX8_firstSettledChoice_64 : decode cX8_firstSettledChoice 64 = .ok (.iconst 2, 1) := by decide +kernel
theorem dX8_firstSettledChoice_65 : decode cX8_firstSettledChoice 65 = .ok (.idiv, 1) := by decide +kernel
theorem dX8_firstSettledChoice_66 : decode cX8_firstSettledChoice 66 = .ok (.imul, 1) := by decide +kernel
theorem dX8_firstSettledChoice_67 : decode cX8_firstSettledChoice 67 = .ok (.iload_n 1, 1) := by decide +kernel
theorem dX8_firstSettledChoice_68 : decode cX8_firstSettledChoice 68 = .ok (.iconst 2, 1) := by decide +kernel
theorem dX8_firstSettledChoice_69 : decode cX8_firstSettledChoice 69 = .ok (.irem, 1) := by decide +kernel
theorem dX8_firstSettledChoice_70 : decode cX8_firstSettledChoice 70 = .ok (.iadd, 1) := by decide +kernel
theorem dX8_firstSettledChoice_71 : decode cX8_firstSettledChoice 71 = .ok (.ireturn, 1) := by decide +kernel
theorem dX8_firstSettledChoice_72 : decode cX8_firstSettledChoice 72 = .ok (.iinc 1 1, 3) := by decide +kernel
theorem dX8_firstSettledChoice_75 : decode cX8_firstSettledChoice 75 = .ok (.goto (-73), 3) := by decide +kernel
theorem dX8_firstSettledChoice_78 : decode cX8_firstSettledChoice 78 = .ok (.bipush (-9), 2) := by decide +kernel
theorem dX8_firstSettledChoice_80 : decode cX8_firstSettledChoice 80 = .ok (.ireturn, 1) := by decide +kernel
theorem dX8_quarrel_0 : decode cX8_quarrel 0 = .ok (.iload_n 2, 1) := by decide +kernel
theorem dX8_quarrel_1 : decode cX8_quarrel 1 = .ok (.iconst 0, 1) := by decide +kernel
theorem dX8_quarrel_2 : decode cX8_quarrel 2 = .ok (.invokestatic 233, 3) := by decide +kernel
theorem dX8_quarrel_5 : decode cX8_quarrel 5 = .ok (.iload_n 3, 1) := by decide +kernel
theorem dX8_quarrel_6 : decode cX8_quarrel 6 = .ok (.iconst 2, 1) := by decide +kernel
theorem dX8_quarrel_7 : decode cX8_quarrel 7 = .ok (.invokestatic 233, 3) := by decide +kernel
theorem dX8_quarrel_10 : decode cX8_quarrel 10 = .ok (.iload 4, 2) := by decide +kernel
theorem dX8_quarrel_12 : decode cX8_quarrel 12 = .ok (.iconst 0, 1) := by decide +kernel
theorem dX8_quarrel_13 : decode cX8_quarrel 13 = .ok (.invokestatic 233, 3) := by decide +kernel
theorem dX8_quarrel_16 : decode cX8_quarrel 16 = .ok (.invokestatic 154, 3) := by decide +kernel
theorem dX8_quarrel_19 : decode cX8_quarrel 19 = .ok (.istore 6, 2) := by decide +kernel
theorem dX8_quarrel_21 : decode cX8_quarrel 21 = .ok (.iload_n 2, 1) := by decide +kernel
theorem dX8_quarrel_22 : decode cX8_quarrel 22 = .ok (.bipush 7, 2) := by decide +kernel
theorem dX8_quarrel_24 : decode cX8_quarrel 24 = .ok (.invokestatic 236, 3) := by decide +kernel
theorem dX8_quarrel_27 : decode cX8_quarrel 27 = .ok (.iload_n 3, 1) := by decide +kernel
theorem dX8_quarrel_28 : decode cX8_quarrel 28 = .ok (.bipush 20, 2) := by decide +kernel
theorem dX8_quarrel_30 : decode cX8_quarrel 30 = .ok (.invokestatic 236, 3) := by decide +kernel
theorem dX8_quarrel_33 : decode cX8_quarrel 33 = .ok (.iload 4, 2) := by decide +kernel
theorem dX8_quarrel_35 : decode cX8_quarrel 35 = .ok (.bipush 99, 2) := by decide +kernel
theorem dX8_quarrel_37 : decode cX8_quarrel 37 = .ok (.invokestatic 236, 3) := by decide +kernel
theorem dX8_quarrel_40 : decode cX8_quarrel 40 = .ok (.invokestatic 154, 3) := by decide +kernel
theorem dX8_quarrel_43 : decode cX8_quarrel 43 = .ok (.istore 7, 2) := by decide +kernel
theorem dX8_quarrel_45 : decode cX8_quarrel 45 = .ok (.aload_n 0, 1) := by decide +kernel
theorem dX8_quarrel_46 : decode cX8_quarrel 46 = .ok (.iload_n 1, 1) := by decide +kernel
theorem dX8_quarrel_47 : decode cX8_quarrel 47 = .ok (.invokevirtual 96, 3) := by decide +kernel
theorem dX8_quarrel_50 : decode cX8_quarrel 50 = .ok (.iload 6, 2) := by decide +kernel
theorem dX8_quarrel_52 : decode cX8_quarrel 52 = .ok (.iload 7, 2) := by decide +kernel
theorem dX8_quarrel_54 : decode cX8_quarrel 54 = .ok (.invokestatic 154, 3) := by decide +kernel
theorem dX8_quarrel_57 : decode cX8_quarrel 57 = .ok (.iload 5, 2) := by decide +kernel
theorem dX8_quarrel_59 : decode cX8_quarrel 59 = .ok (.iconst 2, 1) := by decide +kernel
theorem dX8_quarrel_60 : decode cX8_quarrel 60 = .ok (.invokestatic 99, 3) := by decide +kernel
theorem dX8_quarrel_63 : decode cX8_quarrel 63 = .ok (.invokestatic 103, 3) := by decide +kernel
theorem dX8_quarrel_66 : decode cX8_quarrel 66 = .ok (.istore 8, 2) := by decide +kernel
theorem dX8_quarrel_68 : decode cX8_quarrel 68 = .ok (.iload 8, 2) := by decide +kernel
theorem dX8_quarrel_70 : decode cX8_quarrel 70 = .ok (.ifCond .eq 10, 3) := by decide +kernel
theorem dX8_quarrel_73 : decode cX8_quarrel 73 = .ok (.aload_n 0, 1) := by decide +kernel
theorem dX8_quarrel_74 : decode cX8_quarrel 74 = .ok (.iload 8, 2) := by decide +kernel
theorem dX8_quarrel_76 : decode cX8_quarrel 76 = .ok (.invokevirtual 239, 3) := by decide +kernel
theorem dX8_quarrel_79 : decode cX8_quarrel 79 = .ok (.lreturn, 1) := by decide +kernel
theorem dX8_quarrel_80 : decode cX8_quarrel 80 = .ok (.aload_n 0, 1) := by decide +kernel
theorem dX8_quarrel_81 : decode cX8_quarrel 81 = .ok (.iload_n 2, 1) := by decide +kernel
theorem dX8_quarrel_82 : decode cX8_quarrel 82 = .ok (.invokevirtual 170, 3) := by decide +kernel
theorem dX8_quarrel_85 : decode cX8_quarrel 85 = .ok (.aload_n 0, 1) := by decide +kernel
theorem dX8_quarrel_86 : decode cX8_quarrel 86 = .ok (.getfield 36, 3) := by decide +kernel
theorem dX8_quarrel_89 : decode cX8_quarrel 89 = .ok (.getfield 160, 3) := by decide +kernel
theorem dX8_quarrel_92 : decode cX8_quarrel 92 = .ok (.iload_n 1, 1) := by decide +kernel
theorem dX8_quarrel_93 : decode cX8_quarrel 93 = .ok (.iaload, 1) := by decide +kernel
theorem dX8_quarrel_94 : decode cX8_quarrel 94 = .ok (.iload_n 2, 1) := by decide +kernel
theorem dX8_quarrel_95 : decode cX8_quarrel 95 = .ok (.iload_n 3, 1) := by decide +kernel
theorem dX8_quarrel_96 : decode cX8_quarrel 96 = .ok (.iload 4, 2) := by decide +kernel
theorem dX8_quarrel_98 : decode cX8_quarrel 98 = .ok (.invokestatic 243, 3) := by decide +kernel
theorem dX8_quarrel_101 : decode cX8_quarrel 101 = .ok (.iload_n 3, 1) := by decide +kernel
theorem dX8_quarrel_102 : decode cX8_quarrel 102 = .ok (.i2l, 1) := by decide +kernel
theorem dX8_quarrel_103 : decode cX8_quarrel 103 = .ok (.iload_n 2, 1) := by decide +kernel
theorem dX8_quarrel_104 : decode cX8_quarrel 104 = .ok (.invokestatic 247, 3) := by decide +kernel
theorem dX8_quarrel_107 : decode cX8_quarrel 107 = .ok (.iload 5, 2) := by decide +kernel
theorem dX8_quarrel_109 : decode cX8_quarrel 109 = .ok (.invokestatic 251, 3) := by decide +kernel
theorem dX8_quarrel_112 : decode cX8_quarrel 112 = .ok (.lreturn, 1) := by decide +kernel
theorem dX8_waysOfScars_0 : decode cX8_waysOfScars 0 = .ok (.lconst 0, 1) := by decide +kernel
theorem dX8_waysOfScars_1 : decode cX8_waysOfScars 1 = .ok (.lstore 4, 2) := by decide +kernel
theorem dX8_waysOfScars_3 : decode cX8_waysOfScars 3 = .ok (.lconst 1, 1) := by decide +kernel
theorem dX8_waysOfScars_4 : decode cX8_waysOfScars 4 = .ok (.lstore 6, 2) := by decide +kernel
theorem dX8_waysOfScars_6 : decode cX8_waysOfScars 6 = .ok (.iconst 0, 1) := by decide +kernel
theorem dX8_waysOfScars_7 : decode cX8_waysOfScars 7 = .ok (.istore 8, 2) := by decide +kernel
theorem dX8_waysOfScars_9 : decode cX8_waysOfScars 9 = .ok (.iload 8, 2) := by decide +kernel
theorem dX8_waysOfScars_11 : decode cX8_waysOfScars 11 = .ok (.iload_n 1, 1) := by decide +kernel
theorem dX8_waysOfScars_12 : decode cX8_waysOfScars 12 = .ok (.if_icmp .gt 59, 3) := by decide +kernel
theorem dX8_waysOfScars_15 : decode cX8_waysOfScars 15 = .ok (.iload_n 0, 1) := by decide +kernel
theorem dX8_waysOfScars_16 : decode cX8_waysOfScars 16 = .ok (.iconst 3, 1) := by decide +kernel
theorem dX8_waysOfScars_17 : decode cX8_waysOfScars 17 = .ok (.iload 8, 2) := by decide +kernel
theorem dX8_waysOfScars_19 : decode cX8_waysOfScars 19 = .ok (.imul, 1) := by decide +kernel
theorem dX8_waysOfScars_20 : decode cX8_waysOfScars 20 = .ok (.iadd, 1) := by decide +kernel
theorem dX8_waysOfScars_21 : decode cX8_waysOfScars 21 = .ok (.bipush 99, 2) := by decide +kernel
theorem dX8_waysOfScars_23 : decode cX8_waysOfScars 23 = .ok (.invokestatic 255, 3) := by decide +kernel
theorem dX8_waysOfScars_26 : decode cX8_waysOfScars 26 = .ok (.iload_n 3, 1) := by decide +kernel
theorem dX8_waysOfScars_27 : decode cX8_waysOfScars 27 = .ok (.if_icmp .lt 22, 3) := by decide +kernel
theorem dX8_waysOfScars_30 : decode cX8_waysOfScars 30 = .ok (.lload 4, 2) := by decide +kernel
theorem dX8_waysOfScars_32 : decode cX8_waysOfScars 32 = .ok (.lload 6, 2) := by decide +kernel
theorem dX8_waysOfScars_34 : decode cX8_waysOfScars 34 = .ok (.iload_n 2, 1) := by decide +kernel
theorem dX8_waysOfScars_35 : decode cX8_waysOfScars 35 = .ok (.iconst 1, 1) := by decide +kernel
theorem dX8_waysOfScars_36 : decode cX8_waysOfScars 36 = .ok (.isub, 1) := by decide +kernel
theorem dX8_waysOfScars_37 : decode cX8_waysOfScars 37 = .ok (.i2l, 1) := by decide +kernel
theorem dX8_waysOfScars_38 : decode cX8_waysOfScars 38 = .ok (.iload_n 1, 1) := by decide +kernel
theorem dX8_waysOfScars_39 : decode cX8_waysOfScars 39 = .ok (.iload 8, 2) := by decide +kernel
theorem dX8_waysOfScars_41 : decode cX8_waysOfScars 41 = .ok (.isub, 1) := by decide +kernel
theorem dX8_waysOfScars_42 : decode cX8_waysOfScars 42 = .ok (.invokestatic 247, 3) := by decide +kernel
theorem dX8_waysOfScars_45 : decode cX8_waysOfScars 45 = .ok (.lmul, 1) := by decide +kernel
theorem dX8_waysOfScars_46 : decode cX8_waysOfScars 46 = .ok (.ladd, 1) := by decide +kernel
theorem dX8_waysOfScars_47 : decode cX8_waysOfScars 47 = .ok (.lstore 4, 2) := by decide +kernel
theorem dX8_waysOfScars_49 : decode cX8_waysOfScars 49 = .ok (.lload 6, 2) := by decide +kernel
theorem dX8_waysOfScars_51 : decode cX8_waysOfScars 51 = .ok (.iload_n 1, 1) := by decide +kernel
theorem dX8_waysOfScars_52 : decode cX8_waysOfScars 52 = .ok (.iload 8, 2) := by decide +kernel
theorem dX8_waysOfScars_54 : decode cX8_waysOfScars 54 = .ok (.isub, 1) := by decide +kernel
theorem dX8_waysOfScars_55 : decode cX8_waysOfScars 55 = .ok (.i2l, 1) := by decide +kernel
theorem dX8_waysOfScars_56 : decode cX8_waysOfScars 56 = .ok (.lmul, 1) := by decide +kernel
theorem dX8_waysOfScars_57 : decode cX8_waysOfScars 57 = .ok (.iload 8, 2) := by decide +kernel
theorem dX8_waysOfScars_59 : decode cX8_waysOfScars 59 = .ok (.iconst 1, 1) := by decide +kernel
theorem dX8_waysOfScars_60 : decode cX8_waysOfScars 60 = .ok (.iadd, 1) := by decide +kernel
theorem dX8_waysOfScars_61 : decode cX8_waysOfScars 61 = .ok (.i2l, 1) := by decide +kernel
theorem dX8_waysOfScars_62 : decode cX8_waysOfScars 62 = .ok (.ldiv, 1) := by decide +kernel
theorem dX8_waysOfScars_63 : decode cX8_waysOfScars 63 = .ok (.lstore 6, 2) := by decide +kernel
theorem dX8_waysOfScars_65 : decode cX8_waysOfScars 65 = .ok (.iinc 8 1, 3) := by decide +kernel
theorem dX8_waysOfScars_68 : decode cX8_waysOfScars 68 = .ok (.goto (-59), 3) := by decide +kernel
theorem dX8_waysOfScars_71 : decode cX8_waysOfScars 71 = .ok (.lload 4, 2) := by decide +kernel
theorem dX8_waysOfScars_73 : decode cX8_waysOfScars 73 = .ok (.lreturn, 1) := by decide +kernel
theorem dX8_mean_0 : decode cX8_mean 0 = .ok (.iload_n 1, 1) := by decide +kernel
theorem dX8_mean_1 : decode cX8_mean 1 = .ok (.iconst 2, 1) := by decide +kernel
theorem dX8_mean_2 : decode cX8_mean 2 = .ok (.invokestatic 99, 3) := by decide +kernel
theorem dX8_mean_5 : decode cX8_mean 5 = .ok (.istore_n 2, 1) := by decide +kernel
theorem dX8_mean_6 : decode cX8_mean 6 = .ok (.iload_n 2, 1) := by decide +kernel
theorem dX8_mean_7 : decode cX8_mean 7 = .ok (.ifCond .eq 9, 3) := by decide +kernel
theorem dX8_mean_10 : decode cX8_mean 10 = .ok (.aload_n 0, 1) := by decide +kernel
theorem dX8_mean_11 : decode cX8_mean 11 = .ok (.iload_n 2, 1) := by decide +kernel
theorem dX8_mean_12 : decode cX8_mean 12 = .ok (.invokevirtual 239, 3) := by decide +kernel
theorem dX8_mean_15 : decode cX8_mean 15 = .ok (.lreturn, 1) := by decide +kernel
theorem dX8_mean_16 : decode cX8_mean 16 = .ok (.aload_n 0, 1) := by decide +kernel
theorem dX8_mean_17 : decode cX8_mean 17 = .ok (.getfield 30, 3) := by decide +kernel
theorem dX8_mean_20 : decode cX8_mean 20 = .ok (.invokevirtual 260, 3) := by decide +kernel
theorem dX8_mean_23 : decode cX8_mean 23 = .ok (.i2l, 1) := by decide +kernel
theorem dX8_mean_24 : decode cX8_mean 24 = .ok (.aload_n 0, 1) := by decide +kernel
theorem dX8_mean_25 : decode cX8_mean 25 = .ok (.getfield 30, 3) := by decide +kernel
theorem dX8_mean_28 : decode cX8_mean 28 = .ok (.getfield 192, 3) := by decide +kernel
theorem dX8_mean_31 : decode cX8_mean 31 = .ok (.iconst 1, 1) := by decide +kernel
theorem dX8_mean_32 : decode cX8_mean 32 = .ok (.invokestatic 263, 3) := by decide +kernel
theorem dX8_mean_35 : decode cX8_mean 35 = .ok (.i2l, 1) := by decide +kernel
theorem dX8_mean_36 : decode cX8_mean 36 = .ok (.iload_n 1, 1) := by decide +kernel
theorem dX8_mean_37 : decode cX8_mean 37 = .ok (.invokestatic 251, 3) := by decide +kernel
theorem dX8_mean_40 : decode cX8_mean 40 = .ok (.lreturn, 1) := by decide +kernel
theorem dX8_partOfFraction_0 : decode cX8_partOfFraction 0 = .ok (.lload_n 0, 1) := by decide +kernel
theorem dX8_partOfFraction_1 : decode cX8_partOfFraction 1 = .ok (.lload_n 2, 1) := by decide +kernel
theorem dX8_partOfFraction_2 : decode cX8_partOfFraction 2 = .ok (.invokestatic 266, 3) := by decide +kernel
theorem dX8_partOfFraction_5 : decode cX8_partOfFraction 5 = .ok (.lstore 5, 2) := by decide +kernel
theorem dX8_partOfFraction_7 : decode cX8_partOfFraction 7 = .ok (.iload 4, 2) := by decide +kernel
theorem dX8_partOfFraction_9 : decode cX8_partOfFraction 9 = .ok (.ifCond .ne 7, 3) := by decide +kernel
theorem dX8_partOfFraction_12 : decode cX8_partOfFraction 12 = .ok (.lload_n 0, 1) := by decide +kernel
theorem dX8_partOfFraction_13 : decode cX8_partOfFraction 13 = .ok (.goto 4, 3) := by decide +kernel
theorem dX8_partOfFraction_16 : decode cX8_partOfFraction 16 = .ok (.lload_n 2, 1) := by decide +kernel
theorem dX8_partOfFraction_17 : decode cX8_partOfFraction 17 = .ok (.lstore 7, 2) := by decide +kernel
theorem dX8_partOfFraction_19 : decode cX8_partOfFraction 19 = .ok (.lload 5, 2) := by decide +kernel
theorem dX8_partOfFraction_21 : decode cX8_partOfFraction 21 = .ok (.lconst 0, 1) := by decide +kernel
theorem dX8_partOfFraction_22 : decode cX8_partOfFraction 22 = .ok (.lcmp, 1) := by decide +kernel
theorem dX8_partOfFraction_23 : decode cX8_partOfFraction 23 = .ok (.ifCond .ne 8, 3) := by decide +kernel
theorem dX8_partOfFraction_26 : decode cX8_partOfFraction 26 = .ok (.lload 7, 2) := by decide +kernel
theorem dX8_partOfFraction_28 : decode cX8_partOfFraction 28 = .ok (.goto 8, 3) := by decide +kernel
theorem dX8_partOfFraction_31 : decode cX8_partOfFraction 31 = .ok (.lload 7, 2) := by decide +kernel
theorem dX8_partOfFraction_33 : decode cX8_partOfFraction 33 = .ok (.lload 5, 2) := by decide +kernel
theorem dX8_partOfFraction_35 : decode cX8_partOfFraction 35 = .ok (.ldiv, 1) := by decide +kernel
theorem dX8_partOfFraction_36 : decode cX8_partOfFraction 36 = .ok (.lreturn, 1) := by decide +kernel
theorem dX8_greatestShared_0 : decode cX8_greatestShared 0 = .ok (.lload_n 0, 1) := by decide +kernel
theorem dX8_greatestShared_1 : decode cX8_greatestShared 1 = .ok (.lstore 4, 2) := by decide +kernel
theorem dX8_greatestShared_3 : decode cX8_greatestShared 3 = .ok (.lload_n 2, 1) := by decide +kernel
theorem dX8_greatestShared_4 : decode cX8_greatestShared 4 = .ok (.lstore 6, 2) := by decide +kernel
theorem dX8_greatestShared_6 : decode cX8_greatestShared 6 = .ok (.iconst 0, 1) := by decide +kernel
theorem dX8_greatestShared_7 : decode cX8_greatestShared 7 = .ok (.istore 8, 2) := by decide +kernel
theorem dX8_greatestShared_9 : decode cX8_greatestShared 9 = .ok (.iload 8, 2) := by decide +kernel
theorem dX8_greatestShared_11 : decode cX8_greatestShared 11 = .ok (.bipush 100, 2) := by decide +kernel
theorem dX8_greatestShared_13 : decode cX8_greatestShared 13 = .ok (.if_icmp .ge 31, 3) := by decide +kernel
theorem dX8_greatestShared_16 : decode cX8_greatestShared 16 = .ok (.lload 6, 2) := by decide +kernel
theorem dX8_greatestShared_18 : decode cX8_greatestShared 18 = .ok (.lconst 0, 1) := by decide +kernel
theorem dX8_greatestShared_19 : decode cX8_greatestShared 19 = .ok (.lcmp, 1) := by decide +kernel
theorem dX8_greatestShared_20 : decode cX8_greatestShared 20 = .ok (.ifCond .eq 24, 3) := by decide +kernel
theorem dX8_greatestShared_23 : decode cX8_greatestShared 23 = .ok (.lload 4, 2) := by decide +kernel
theorem dX8_greatestShared_25 : decode cX8_greatestShared 25 = .ok (.lload 6, 2) := by decide +kernel
theorem dX8_greatestShared_27 : decode cX8_greatestShared 27 = .ok (.lrem, 1) := by decide +kernel
theorem dX8_greatestShared_28 : decode cX8_greatestShared 28 = .ok (.lstore 9, 2) := by decide +kernel
theorem dX8_greatestShared_30 : decode cX8_greatestShared 30 = .ok (.lload 6, 2) := by decide +kernel
theorem dX8_greatestShared_32 : decode cX8_greatestShared 32 = .ok (.lstore 4, 2) := by decide +kernel
theorem dX8_greatestShared_34 : decode cX8_greatestShared 34 = .ok (.lload 9, 2) := by decide +kernel
theorem dX8_greatestShared_36 : decode cX8_greatestShared 36 = .ok (.lstore 6, 2) := by decide +kernel
theorem dX8_greatestShared_38 : decode cX8_greatestShared 38 = .ok (.iinc 8 1, 3) := by decide +kernel
theorem dX8_greatestShared_41 : decode cX8_greatestShared 41 = .ok (.goto (-32), 3) := by decide +kernel
theorem dX8_greatestShared_44 : decode cX8_greatestShared 44 = .ok (.lload 4, 2) := by decide +kernel
theorem dX8_greatestShared_46 : decode cX8_greatestShared 46 = .ok (.lreturn, 1) := by decide +kernel
theorem dX8_power_0 : decode cX8_power 0 = .ok (.lconst 1, 1) := by decide +kernel
theorem dX8_power_1 : decode cX8_power 1 = .ok (.lstore_n 3, 1) := by decide +kernel
theorem dX8_power_2 : decode cX8_power 2 = .ok (.iconst 0, 1) := by decide +kernel
theorem dX8_power_3 : decode cX8_power 3 = .ok (.istore 5, 2) := by decide +kernel
theorem dX8_power_5 : decode cX8_power 5 = .ok (.iload 5, 2) := by decide +kernel
theorem dX8_power_7 : decode cX8_power 7 = .ok (.iload_n 2, 1) := by decide +kernel
theorem dX8_power_8 : decode cX8_power 8 = .ok (.if_icmp .ge 13, 3) := by decide +kernel
theorem dX8_power_11 : decode cX8_power 11 = .ok (.lload_n 3, 1) := by decide +kernel
theorem dX8_power_12 : decode cX8_power 12 = .ok (.lload_n 0, 1) := by decide +kernel
theorem dX8_power_13 : decode cX8_power 13 = .ok (.lmul, 1) := by decide +kernel
theorem dX8_power_14 : decode cX8_power 14 = .ok (.lstore_n 3, 1) := by decide +kernel
theorem dX8_power_15 : decode cX8_power 15 = .ok (.iinc 5 1, 3) := by decide +kernel
theorem dX8_power_18 : decode cX8_power 18 = .ok (.goto (-13), 3) := by decide +kernel
theorem dX8_power_21 : decode cX8_power 21 = .ok (.lload_n 3, 1) := by decide +kernel
theorem dX8_power_22 : decode cX8_power 22 = .ok (.lreturn, 1) := by decide +kernel
theorem dX8_row_0 : decode cX8_row 0 = .ok (.iload_n 1, 1) := by decide +kernel
theorem dX8_row_1 : decode cX8_row 1 = .ok (.iconst 0, 1) := by decide +kernel
theorem dX8_row_2 : decode cX8_row 2 = .ok (.bipush 99, 2) := by decide +kernel
theorem dX8_row_4 : decode cX8_row 4 = .ok (.invokestatic 73, 3) := by decide +kernel
theorem dX8_row_7 : decode cX8_row 7 = .ok (.istore_n 2, 1) := by decide +kernel
theorem dX8_row_8 : decode cX8_row 8 = .ok (.iload_n 2, 1) := by decide +kernel
theorem dX8_row_9 : decode cX8_row 9 = .ok (.ifCond .eq 9, 3) := by decide +kernel
theorem dX8_row_12 : decode cX8_row 12 = .ok (.aload_n 0, 1) := by decide +kernel
theorem dX8_row_13 : decode cX8_row 13 = .ok (.iload_n 2, 1) := by decide +kernel
theorem dX8_row_14 : decode cX8_row 14 = .ok (.invokevirtual 77, 3) := by decide +kernel
theorem dX8_row_17 : decode cX8_row 17 = .ok (.ireturn, 1) := by decide +kernel
theorem dX8_row_18 : decode cX8_row 18 = .ok (.aload_n 0, 1) := by decide +kernel
theorem dX8_row_19 : decode cX8_row 19 = .ok (.getfield 65, 3) := by decide +kernel
theorem dX8_row_22 : decode cX8_row 22 = .ok (.bipush 16, 2) := by decide +kernel
theorem dX8_row_24 : decode cX8_row 24 = .ok (.if_icmp .lt 10, 3) := by decide +kernel
theorem dX8_row_27 : decode cX8_row 27 = .ok (.aload_n 0, 1) := by decide +kernel
theorem dX8_row_28 : decode cX8_row 28 = .ok (.bipush (-6), 2) := by decide +kernel
theorem dX8_row_30 : decode cX8_row 30 = .ok (.invokevirtual 77, 3) := by decide +kernel
theorem dX8_row_33 : decode cX8_row 33 = .ok (.ireturn, 1) := by decide +kernel
theorem dX8_row_34 : decode cX8_row 34 = .ok (.aload_n 0, 1) := by decide +kernel
theorem dX8_row_35 : decode cX8_row 35 = .ok (.getfield 49, 3) := by decide +kernel
theorem dX8_row_38 : decode cX8_row 38 = .ok (.aload_n 0, 1) := by decide +kernel
theorem dX8_row_39 : decode cX8_row 39 = .ok (.getfield 65, 3) := by decide +kernel
theorem dX8_row_42 : decode cX8_row 42 = .ok (.iload_n 1, 1) := by decide +kernel
theorem dX8_row_43 : decode cX8_row 43 = .ok (.iastore, 1) := by decide +kernel
theorem dX8_row_44 : decode cX8_row 44 = .ok (.aload_n 0, 1) := by decide +kernel
theorem dX8_row_45 : decode cX8_row 45 = .ok (.dup, 1) := by decide +kernel
theorem dX8_row_46 : decode cX8_row 46 = .ok (.getfield 65, 3) := by decide +kernel
theorem dX8_row_49 : decode cX8_row 49 = .ok (.iconst 1, 1) := by decide +kernel
theorem dX8_row_50 : decode cX8_row 50 = .ok (.iadd, 1) := by decide +kernel
theorem dX8_row_51 : decode cX8_row 51 = .ok (.putfield 65, 3) := by decide +kernel
theorem dX8_row_54 : decode cX8_row 54 = .ok (.aload_n 0, 1) := by decide +kernel
theorem dX8_row_55 : decode cX8_row 55 = .ok (.getfield 65, 3) := by decide +kernel
theorem dX8_row_58 : decode cX8_row 58 = .ok (.ireturn, 1) := by decide +kernel
theorem dX8_clear_0 : decode cX8_clear 0 = .ok (.aload_n 0, 1) := by decide +kernel
theorem dX8_clear_1 : decode cX8_clear 1 = .ok (.getfield 65, 3) := by decide +kernel
theorem dX8_clear_4 : decode cX8_clear 4 = .ok (.istore_n 1, 1) := by decide +kernel
theorem dX8_clear_5 : decode cX8_clear 5 = .ok (.aload_n 0, 1) := by decide +kernel
theorem dX8_clear_6 : decode cX8_clear 6 = .ok (.iconst 0, 1) := by decide +kernel
theorem dX8_clear_7 : decode cX8_clear 7 = .ok (.putfield 65, 3) := by decide +kernel
theorem dX8_clear_10 : decode cX8_clear 10 = .ok (.iload_n 1, 1) := by decide +kernel
theorem dX8_clear_11 : decode cX8_clear 11 = .ok (.ireturn, 1) := by decide +kernel
theorem dX8_judge_0 : decode cX8_judge 0 = .ok (.bipush (-9), 2) := by decide +kernel
theorem dX8_judge_2 : decode cX8_judge 2 = .ok (.istore_n 1, 1) := by decide +kernel
theorem dX8_judge_3 : decode cX8_judge 3 = .ok (.iconst 0, 1) := by decide +kernel
theorem dX8_judge_4 : decode cX8_judge 4 = .ok (.istore_n 2, 1) := by decide +kernel
theorem dX8_judge_5 : decode cX8_judge 5 = .ok (.iload_n 2, 1) := by decide +kernel
theorem dX8_judge_6 : decode cX8_judge 6 = .ok (.aload_n 0, 1) := by decide +kernel
theorem dX8_judge_7 : decode cX8_judge 7 = .ok (.getfield 65, 3) := by decide +kernel
theorem dX8_judge_10 : decode cX8_judge 10 = .ok (.if_icmp .ge 46, 3) := by decide +kernel
theorem dX8_judge_13 : decode cX8_judge 13 = .ok (.iload_n 1, 1) := by decide +kernel
theorem dX8_judge_14 : decode cX8_judge 14 = .ok (.bipush (-9), 2) := by decide +kernel
theorem dX8_judge_16 : decode cX8_judge 16 = .ok (.if_icmp .ne 40, 3) := by decide +kernel
theorem dX8_judge_19 : decode cX8_judge 19 = .ok (.iload_n 2, 1) := by decide +kernel
theorem dX8_judge_20 : decode cX8_judge 20 = .ok (.aload_n 0, 1) := by decide +kernel
theorem dX8_judge_21 : decode cX8_judge 21 = .ok (.getfield 30, 3) := by decide +kernel
theorem dX8_judge_24 : decode cX8_judge 24 = .ok (.getfield 192, 3) := by decide +kernel
theorem dX8_judge_27 : decode cX8_judge 27 = .ok (.if_icmp .ge 21, 3) := by decide +kernel
theorem dX8_judge_30 : decode cX8_judge 30 = .ok (.aload_n 0, 1) := by decide +kernel
theorem dX8_judge_31 : decode cX8_judge 31 = .ok (.getfield 30, 3) := by decide +kernel
theorem dX8_judge_34 : decode cX8_judge 34 = .ok (.getfield 160, 3) := by decide +kernel
theorem dX8_judge_37 : decode cX8_judge 37 = .ok (.iload_n 2, 1) := by decide +kernel
theorem dX8_judge_38 : decode cX8_judge 38 = .ok (.iaload, 1) := by decide +kernel
theorem dX8_judge_39 : decode cX8_judge 39 = .ok (.aload_n 0, 1) := by decide +kernel
theorem dX8_judge_40 : decode cX8_judge 40 = .ok (.getfield 49, 3) := by decide +kernel
theorem dX8_judge_43 : decode cX8_judge 43 = .ok (.iload_n 2, 1) := by decide +kernel
theorem dX8_judge_44 : decode cX8_judge 44 = .ok (.iaload, 1) := by decide +kernel
theorem dX8_judge_45 : decode cX8_judge 45 = .ok (.if_icmp .eq 5, 3) := by decide +kernel
theorem dX8_judge_48 : decode cX8_judge 48 = .ok (.iload_n 2, 1) := by decide +kernel
theorem dX8_judge_49 : decode cX8_judge 49 = .ok (.istore_n 1, 1) := by decide +kernel
theorem dX8_judge_50 : decode cX8_judge 50 = .ok (.iinc 2 1, 3) := by decide +kernel
theorem dX8_judge_53 : decode cX8_judge 53 = .ok (.goto (-48), 3) := by decide +kernel
theorem dX8_judge_56 : decode cX8_judge 56 = .ok (.aload_n 0, 1) := by decide +kernel
theorem dX8_judge_57 : decode cX8_judge 57 = .ok (.iconst 0, 1) := by decide +kernel
theorem dX8_judge_58 : decode cX8_judge 58 = .ok (.putfield 65, 3) := by decide +kernel
theorem dX8_judge_61 : decode cX8_judge 61 = .ok (.iload_n 1, 1) := by decide +kernel
theorem dX8_judge_62 : decode cX8_judge 62 = .ok (.ireturn, 1) := by decide +kernel
theorem dX8_who_0 : decode cX8_who 0 = .ok (.aload_n 0, 1) := by decide +kernel
theorem dX8_who_1 : decode cX8_who 1 = .ok (.iload_n 1, 1) := by decide +kernel
theorem dX8_who_2 : decode cX8_who 2 = .ok (.invokevirtual 96, 3) := by decide +kernel
theorem dX8_who_5 : decode cX8_who 5 = .ok (.istore_n 2, 1) := by decide +kernel
theorem dX8_who_6 : decode cX8_who 6 = .ok (.iload_n 2, 1) := by decide +kernel
theorem dX8_who_7 : decode cX8_who 7 = .ok (.ifCond .eq 9, 3) := by decide +kernel
theorem dX8_who_10 : decode cX8_who 10 = .ok (.aload_n 0, 1) := by decide +kernel
theorem dX8_who_11 : decode cX8_who 11 = .ok (.iload_n 2, 1) := by decide +kernel
theorem dX8_who_12 : decode cX8_who 12 = .ok (.invokevirtual 77, 3) := by decide +kernel
theorem dX8_who_15 : decode cX8_who 15 = .ok (.ireturn, 1) := by decide +kernel
theorem dX8_who_16 : decode cX8_who 16 = .ok (.iconst 0, 1) := by decide +kernel
theorem dX8_who_17 : decode cX8_who 17 = .ok (.istore_n 3, 1) := by decide +kernel
theorem dX8_who_18 : decode cX8_who 18 = .ok (.iconst 0, 1) := by decide +kernel
theorem dX8_who_19 : decode cX8_who 19 = .ok (.istore 4, 2) := by decide +kernel
theorem dX8_who_21 : decode cX8_who 21 = .ok (.iload 4, 2) := by decide +kernel
theorem dX8_who_23 : decode cX8_who 23 = .ok (.aload_n 0, 1) := by decide +kernel
theorem dX8_who_24 : decode cX8_who 24 = .ok (.getfield 30, 3) := by decide +kernel
theorem dX8_who_27 : decode cX8_who 27 = .ok (.getfield 192, 3) := by decide +kernel
theorem dX8_who_30 : decode cX8_who 30 = .ok (.if_icmp .ge 26, 3) := by decide +kernel
theorem dX8_who_33 : decode cX8_who 33 = .ok (.aload_n 0, 1) := by decide +kernel
theorem dX8_who_34 : decode cX8_who 34 = .ok (.iload 4, 2) := by decide +kernel
theorem dX8_who_36 : decode cX8_who 36 = .ok (.iload_n 1, 1) := by decide +kernel
theorem dX8_who_37 : decode cX8_who 37 = .ok (.invokevirtual 270, 3) := by decide +kernel
theorem dX8_who_40 : decode cX8_who 40 = .ok (.ifCond .eq 10, 3) := by decide +kernel
theorem dX8_who_43 : decode cX8_who 43 = .ok (.iload_n 3, 1) := by decide +kernel
theorem dX8_who_44 : decode cX8_who 44 = .ok (.iconst 1, 1) := by decide +kernel
theorem dX8_who_45 : decode cX8_who 45 = .ok (.iload 4, 2) := by decide +kernel
theorem dX8_who_47 : decode cX8_who 47 = .ok (.ishl, 1) := by decide +kernel
theorem dX8_who_48 : decode cX8_who 48 = .ok (.ior, 1) := by decide +kernel
theorem dX8_who_49 : decode cX8_who 49 = .ok (.istore_n 3, 1) := by decide +kernel
theorem dX8_who_50 : decode cX8_who 50 = .ok (.iinc 4 1, 3) := by decide +kernel
theorem dX8_who_53 : decode cX8_who 53 = .ok (.goto (-32), 3) := by decide +kernel
theorem dX8_who_56 : decode cX8_who 56 = .ok (.iload_n 3, 1) := by decide +kernel
theorem dX8_who_57 : decode cX8_who 57 = .ok (.ireturn, 1) := by decide +kernel
theorem dX8_wearingFits_0 : decode cX8_wearingFits 0 = .ok (.aload_n 0, 1) := by decide +kernel
theorem dX8_wearingFits_1 : decode cX8_wearingFits 1 = .ok (.getfield 30, 3) := by decide +kernel
theorem dX8_wearingFits_4 : decode cX8_wearingFits 4 = .ok (.iload_n 1, 1) := by decide +kernel
theorem dX8_wearingFits_5 : decode cX8_wearingFits 5 = .ok (.iload_n 2, 1) := by decide +kernel
theorem dX8_wearingFits_6 : decode cX8_wearingFits 6 = .ok (.invokevirtual 273, 3) := by decide +kernel
theorem dX8_wearingFits_9 : decode cX8_wearingFits 9 = .ok (.istore_n 3, 1) := by decide +kernel
theorem dX8_wearingFits_10 : decode cX8_wearingFits 10 = .ok (.aload_n 0, 1) := by decide +kernel
theorem dX8_wearingFits_11 : decode cX8_wearingFits 11 = .ok (.getfield 30, 3) := by decide +kernel
theorem dX8_wearingFits_14 : decode cX8_wearingFits 14 = .ok (.getfield 157, 3) := by decide +kernel
theorem dX8_wearingFits_17 : decode cX8_wearingFits 17 = .ok (.iload_n 2, 1) := by decide +kernel
theorem dX8_wearingFits_18 : decode cX8_wearingFits 18 = .ok (.iaload, 1) := by decide +kernel
theorem dX8_wearingFits_19 : decode cX8_wearingFits 19 = .ok (.istore 4, 2) := by decide +kernel
theorem dX8_wearingFits_21 : decode cX8_wearingFits 21 = .ok (.iconst 0, 1) := by decide +kernel
theorem dX8_wearingFits_22 : decode cX8_wearingFits 22 = .ok (.istore 5, 2) := by decide +kernel
theorem dX8_wearingFits_24 : decode cX8_wearingFits 24 = .ok (.iload 5, 2) := by decide +kernel
theorem dX8_wearingFits_26 : decode cX8_wearingFits 26 = .ok (.aload_n 0, 1) := by decide +kernel
theorem dX8_wearingFits_27 : decode cX8_wearingFits 27 = .ok (.getfield 65, 3) := by decide +kernel
theorem dX8_wearingFits_30 : decode cX8_wearingFits 30 = .ok (.if_icmp .ge 32, 3) := by decide +kernel
theorem dX8_wearingFits_33 : decode cX8_wearingFits 33 = .ok (.aload_n 0, 1) := by decide +kernel
theorem dX8_wearingFits_34 : decode cX8_wearingFits 34 = .ok (.getfield 49, 3) := by decide +kernel
theorem dX8_wearingFits_37 : decode cX8_wearingFits 37 = .ok (.iload 5, 2) := by decide +kernel
theorem dX8_wearingFits_39 : decode cX8_wearingFits 39 = .ok (.iaload, 1) := by decide +kernel
theorem dX8_wearingFits_40 : decode cX8_wearingFits 40 = .ok (.iload 4, 2) := by decide +kernel
theorem dX8_wearingFits_42 : decode cX8_wearingFits 42 = .ok (.if_icmp .eq 5, 3) := by decide +kernel
theorem dX8_wearingFits_45 : decode cX8_wearingFits 45 = .ok (.iconst 0, 1) := by decide +kernel
theorem dX8_wearingFits_46 : decode cX8_wearingFits 46 = .ok (.ireturn, 1) := by decide +kernel
theorem dX8_wearingFits_47 : decode cX8_wearingFits 47 = .ok (.iload 4, 2) := by decide +kernel
theorem dX8_wearingFits_49 : decode cX8_wearingFits 49 = .ok (.iload_n 3, 1) := by decide +kernel
theorem dX8_wearingFits_50 : decode cX8_wearingFits 50 = .ok (.iadd, 1) := by decide +kernel
theorem dX8_wearingFits_51 : decode cX8_wearingFits 51 = .ok (.invokestatic 276, 3) := by decide +kernel
theorem dX8_wearingFits_54 : decode cX8_wearingFits 54 = .ok (.istore 4, 2) := by decide +kernel
theorem dX8_wearingFits_56 : decode cX8_wearingFits 56 = .ok (.iinc 5 1, 3) := by decide +kernel
theorem dX8_wearingFits_59 : decode cX8_wearingFits 59 = .ok (.goto (-35), 3) := by decide +kernel
theorem dX8_wearingFits_62 : decode cX8_wearingFits 62 = .ok (.iconst 1, 1) := by decide +kernel
theorem dX8_wearingFits_63 : decode cX8_wearingFits 63 = .ok (.ireturn, 1) := by decide +kernel
theorem dX8_whatIs_0 : decode cX8_whatIs 0 = .ok (.aload_n 0, 1) := by decide +kernel
theorem dX8_whatIs_1 : decode cX8_whatIs 1 = .ok (.iload_n 1, 1) := by decide +kernel
theorem dX8_whatIs_2 : decode cX8_whatIs 2 = .ok (.invokevirtual 96, 3) := by decide +kernel
theorem dX8_whatIs_5 : decode cX8_whatIs 5 = .ok (.iload_n 2, 1) := by decide +kernel
theorem dX8_whatIs_6 : decode cX8_whatIs 6 = .ok (.iconst 2, 1) := by decide +kernel
theorem dX8_whatIs_7 : decode cX8_whatIs 7 = .ok (.invokestatic 99, 3) := by decide +kernel
theorem dX8_whatIs_10 : decode cX8_whatIs 10 = .ok (.invokestatic 103, 3) := by decide +kernel
theorem dX8_whatIs_13 : decode cX8_whatIs 13 = .ok (.istore_n 3, 1) := by decide +kernel
theorem dX8_whatIs_14 : decode cX8_whatIs 14 = .ok (.iload_n 3, 1) := by decide +kernel
theorem dX8_whatIs_15 : decode cX8_whatIs 15 = .ok (.ifCond .eq 9, 3) := by decide +kernel
theorem dX8_whatIs_18 : decode cX8_whatIs 18 = .ok (.aload_n 0, 1) := by decide +kernel
theorem dX8_whatIs_19 : decode cX8_whatIs 19 = .ok (.iload_n 3, 1) := by decide +kernel
theorem dX8_whatIs_20 : decode cX8_whatIs 20 = .ok (.invokevirtual 77, 3) := by decide +kernel
theorem dX8_whatIs_23 : decode cX8_whatIs 23 = .ok (.ireturn, 1) := by decide +kernel
theorem dX8_whatIs_24 : decode cX8_whatIs 24 = .ok (.aload_n 0, 1) := by decide +kernel
theorem dX8_whatIs_25 : decode cX8_whatIs 25 = .ok (.getfield 30, 3) := by decide +kernel
theorem dX8_whatIs_28 : decode cX8_whatIs 28 = .ok (.getfield 115, 3) := by decide +kernel
theorem dX8_whatIs_31 : decode cX8_whatIs 31 = .ok (.iload_n 1, 1) := by decide +kernel
theorem dX8_whatIs_32 : decode cX8_whatIs 32 = .ok (.iaload, 1) := by decide +kernel
theorem dX8_whatIs_33 : decode cX8_whatIs 33 = .ok (.bipush 9, 2) := by decide +kernel
theorem dX8_whatIs_35 : decode cX8_whatIs 35 = .ok (.if_icmp .ne 5, 3) := by decide +kernel
theorem dX8_whatIs_38 : decode cX8_whatIs 38 = .ok (.iconst 0, 1) := by decide +kernel
theorem dX8_whatIs_39 : decode cX8_whatIs 39 = .ok (.ireturn, 1) := by decide +kernel
theorem dX8_whatIs_40 : decode cX8_whatIs 40 = .ok (.iconst 0, 1) := by decide +kernel
theorem dX8_whatIs_41 : decode cX8_whatIs 41 = .ok (.istore 4, 2) := by decide +kernel
theorem dX8_whatIs_43 : decode cX8_whatIs 43 = .ok (.iload_n 2, 1) := by decide +kernel
theorem dX8_whatIs_44 : decode cX8_whatIs 44 = .ok (.ifCond .ne 8, 3) := by decide +kernel
theorem dX8_whatIs_47 : decode cX8_whatIs 47 = .ok (.bipush 6, 2) := by decide +kernel
theorem dX8_whatIs_49 : decode cX8_whatIs 49 = .ok (.goto 5, 3) := by decide +kernel
theorem dX8_whatIs_52 : decode cX8_whatIs 52 = .ok (.bipush 10, 2) := by decide +kernel
theorem dX8_whatIs_54 : decode cX8_whatIs 54 = .ok (.istore 5, 2) := by decide +kernel
theorem dX8_whatIs_56 : decode cX8_whatIs 56 = .ok (.iconst 0, 1) := by decide +kernel
theorem dX8_whatIs_57 : decode cX8_whatIs 57 = .ok (.istore 6, 2) := by decide +kernel
theorem dX8_whatIs_59 : decode cX8_whatIs 59 = .ok (.iload 6, 2) := by decide +kernel
theorem dX8_whatIs_61 : decode cX8_whatIs 61 = .ok (.iload 5, 2) := by decide +kernel
theorem dX8_whatIs_63 : decode cX8_whatIs 63 = .ok (.if_icmp .ge 74, 3) := by decide +kernel
theorem dX8_whatIs_66 : decode cX8_whatIs 66 = .ok (.aload_n 0, 1) := by decide +kernel
theorem dX8_whatIs_67 : decode cX8_whatIs 67 = .ok (.getfield 36, 3) := by decide +kernel
theorem dX8_whatIs_70 : decode cX8_whatIs 70 = .ok (.aload_n 0, 1) := by decide +kernel
theorem dX8_whatIs_71 : decode cX8_whatIs 71 = .ok (.getfield 30, 3) := by decide +kernel
theorem dX8_whatIs_74 : decode cX8_whatIs 74 = .ok (.invokevirtual 88, 3) := by decide +kernel
theorem dX8_whatIs_77 : decode cX8_whatIs 77 = .ok (.iload_n 2, 1) := by decide +kernel
theorem dX8_whatIs_78 : decode cX8_whatIs 78 = .ok (.ifCond .ne 13, 3) := by decide +kernel
theorem dX8_whatIs_81 : decode cX8_whatIs 81 = .ok (.aload_n 0, 1) := by decide +kernel
theorem dX8_whatIs_82 : decode cX8_whatIs 82 = .ok (.getfield 36, 3) := by decide +kernel
theorem dX8_whatIs_85 : decode cX8_whatIs 85 = .ok (.getfield 106, 3) := by decide +kernel
theorem dX8_whatIs_88 : decode cX8_whatIs 88 = .ok (.goto 10, 3) := by decide +kernel
theorem dX8_whatIs_91 : decode cX8_whatIs 91 = .ok (.aload_n 0, 1) := by decide +kernel
theorem dX8_whatIs_92 : decode cX8_whatIs 92 = .ok (.getfield 36, 3) := by decide +kernel
theorem dX8_whatIs_95 : decode cX8_whatIs 95 = .ok (.getfield 109, 3) := by decide +kernel
theorem dX8_whatIs_98 : decode cX8_whatIs 98 = .ok (.astore 7, 2) := by decide +kernel
theorem dX8_whatIs_100 : decode cX8_whatIs 100 = .ok (.aload 7, 2) := by decide +kernel
theorem dX8_whatIs_102 : decode cX8_whatIs 102 = .ok (.iload_n 1, 1) := by decide +kernel
theorem dX8_whatIs_103 : decode cX8_whatIs 103 = .ok (.iload 6, 2) := by decide +kernel
theorem dX8_whatIs_105 : decode cX8_whatIs 105 = .ok (.iastore, 1) := by decide +kernel
theorem dX8_whatIs_106 : decode cX8_whatIs 106 = .ok (.aload_n 0, 1) := by decide +kernel
theorem dX8_whatIs_107 : decode cX8_whatIs 107 = .ok (.aload_n 0, 1) := by decide +kernel
theorem dX8_whatIs_108 : decode cX8_whatIs 108 = .ok (.getfield 30, 3) := by decide +kernel
theorem dX8_whatIs_111 : decode cX8_whatIs 111 = .ok (.getfield 115, 3) := by decide +kernel
theorem dX8_whatIs_114 : decode cX8_whatIs 114 = .ok (.iload_n 1, 1) := by decide +kernel
theorem dX8_whatIs_115 : decode cX8_whatIs 115 = .ok (.iaload, 1) := by decide +kernel
theorem dX8_whatIs_116 : decode cX8_whatIs 116 = .ok (.invokevirtual 279, 3) := by decide +kernel
theorem dX8_whatIs_119 : decode cX8_whatIs 119 = .ok (.ifCond .eq 12, 3) := by decide +kernel
theorem dX8_whatIs_122 : decode cX8_whatIs 122 = .ok (.iload 4, 2) := by decide +kernel
theorem dX8_whatIs_124 : decode cX8_whatIs 124 = .ok (.iconst 1, 1) := by decide +kernel
theorem dX8_whatIs_125 : decode cX8_whatIs 125 = .ok (.iload 6, 2) := by decide +kernel
theorem dX8_whatIs_127 : decode cX8_whatIs 127 = .ok (.ishl, 1) := by decide +kernel
theorem dX8_whatIs_128 : decode cX8_whatIs 128 = .ok (.ior, 1) := by decide +kernel
theorem dX8_whatIs_129 : decode cX8_whatIs 129 = .ok (.istore 4, 2) := by decide +kernel
theorem dX8_whatIs_131 : decode cX8_whatIs 131 = .ok (.iinc 6 1, 3) := by decide +kernel
theorem dX8_whatIs_134 : decode cX8_whatIs 134 = .ok (.goto (-75), 3) := by decide +kernel
theorem dX8_whatIs_137 : decode cX8_whatIs 137 = .ok (.iload 4, 2) := by decide +kernel
theorem dX8_whatIs_139 : decode cX8_whatIs 139 = .ok (.ireturn, 1) := by decide +kernel
theorem dX8_mindFits_0 : decode cX8_mindFits 0 = .ok (.iconst 0, 1) := by decide +kernel
theorem dX8_mindFits_1 : decode cX8_mindFits 1 = .ok (.istore_n 2, 1) := by decide +kernel
theorem dX8_mindFits_2 : decode cX8_mindFits 2 = .ok (.iload_n 2, 1) := by decide +kernel
theorem dX8_mindFits_3 : decode cX8_mindFits 3 = .ok (.aload_n 0, 1) := by decide +kernel
theorem dX8_mindFits_4 : decode cX8_mindFits 4 = .ok (.getfield 65, 3) := by decide +kernel
theorem dX8_mindFits_7 : decode cX8_mindFits 7 = .ok (.if_icmp .ge 37, 3) := by decide +kernel
theorem dX8_mindFits_10 : decode cX8_mindFits 10 = .ok (.aload_n 0, 1) := by decide +kernel
theorem dX8_mindFits_11 : decode cX8_mindFits 11 = .ok (.getfield 49, 3) := by decide +kernel
theorem dX8_mindFits_14 : decode cX8_mindFits 14 = .ok (.iload_n 2, 1) := by decide +kernel
theorem dX8_mindFits_15 : decode cX8_mindFits 15 = .ok (.iaload, 1) := by decide +kernel
theorem dX8_mindFits_16 : decode cX8_mindFits 16 = .ok (.aload_n 0, 1) := by decide +kernel
theorem dX8_mindFits_17 : decode cX8_mindFits 17 = .ok (.getfield 36, 3) := by decide +kernel
theorem dX8_mindFits_20 : decode cX8_mindFits 20 = .ok (.getfield 157, 3) := by decide +kernel
theorem dX8_mindFits_23 : decode cX8_mindFits 23 = .ok (.iload_n 1, 1) := by decide +kernel
theorem dX8_mindFits_24 : decode cX8_mindFits 24 = .ok (.iaload, 1) := by decide +kernel
theorem dX8_mindFits_25 : decode cX8_mindFits 25 = .ok (.if_icmp .eq 5, 3) := by decide +kernel
theorem dX8_mindFits_28 : decode cX8_mindFits 28 = .ok (.iconst 0, 1) := by decide +kernel
theorem dX8_mindFits_29 : decode cX8_mindFits 29 = .ok (.ireturn, 1) := by decide +kernel
theorem dX8_mindFits_30 : decode cX8_mindFits 30 = .ok (.aload_n 0, 1) := by decide +kernel
theorem dX8_mindFits_31 : decode cX8_mindFits 31 = .ok (.getfield 36, 3) := by decide +kernel
theorem dX8_mindFits_34 : decode cX8_mindFits 34 = .ok (.iconst 1, 1) := by decide +kernel
theorem dX8_mindFits_35 : decode cX8_mindFits 35 = .ok (.invokevirtual 166, 3) := by decide +kernel
theorem dX8_mindFits_38 : decode cX8_mindFits 38 = .ok (.iinc 2 1, 3) := by decide +kernel
theorem dX8_mindFits_41 : decode cX8_mindFits 41 = .ok (.goto (-39), 3) := by decide +kernel
theorem dX8_mindFits_44 : decode cX8_mindFits 44 = .ok (.iconst 1, 1) := by decide +kernel
theorem dX8_mindFits_45 : decode cX8_mindFits 45 = .ok (.ireturn, 1) := by decide +kernel
theorem dX8_lots_0 : decode cX8_lots 0 = .ok (.iload_n 1, 1) := by decide +kernel
theorem dX8_lots_1 : decode cX8_lots 1 = .ok (.iconst 1, 1) := by decide +kernel
theorem dX8_lots_2 : decode cX8_lots 2 = .ok (.bipush 20, 2) := by decide +kernel
theorem dX8_lots_4 : decode cX8_lots 4 = .ok (.invokestatic 73, 3) := by decide +kernel
theorem dX8_lots_7 : decode cX8_lots 7 = .ok (.iload_n 3, 1) := by decide +kernel
theorem dX8_lots_8 : decode cX8_lots 8 = .ok (.iconst 2, 1) := by decide +kernel
theorem dX8_lots_9 : decode cX8_lots 9 = .ok (.invokestatic 99, 3) := by decide +kernel
theorem dX8_lots_12 : decode cX8_lots 12 = .ok (.invokestatic 103, 3) := by decide +kernel
theorem dX8_lots_15 : decode cX8_lots 15 = .ok (.istore 4, 2) := by decide +kernel
theorem dX8_lots_17 : decode cX8_lots 17 = .ok (.iload 4, 2) := by decide +kernel
theorem dX8_lots_19 : decode cX8_lots 19 = .ok (.ifCond .eq 10, 3) := by decide +kernel
theorem dX8_lots_22 : decode cX8_lots 22 = .ok (.aload_n 0, 1) := by decide +kernel
theorem dX8_lots_23 : decode cX8_lots 23 = .ok (.iload 4, 2) := by decide +kernel
theorem dX8_lots_25 : decode cX8_lots 25 = .ok (.invokevirtual 121, 3) := by decide +kernel
theorem dX8_lots_28 : decode cX8_lots 28 = .ok (.ireturn, 1) := by decide +kernel
theorem dX8_lots_29 : decode cX8_lots 29 = .ok (.aload_n 0, 1) := by decide +kernel
theorem dX8_lots_30 : decode cX8_lots 30 = .ok (.getfield 30, 3) := by decide +kernel
theorem dX8_lots_33 : decode cX8_lots 33 = .ok (.getfield 192, 3) := by decide +kernel
theorem dX8_lots_36 : decode cX8_lots 36 = .ok (.ifCond .ne 10, 3) := by decide +kernel
theorem dX8_lots_39 : decode cX8_lots 39 = .ok (.aload_n 0, 1) := by decide +kernel
theorem dX8_lots_40 : decode cX8_lots 40 = .ok (.bipush (-3), 2) := by decide +kernel
theorem dX8_lots_42 : decode cX8_lots 42 = .ok (.invokevirtual 121, 3) := by decide +kernel
theorem dX8_lots_45 : decode cX8_lots 45 = .ok (.ireturn, 1) := by decide +kernel
theorem dX8_lots_46 : decode cX8_lots 46 = .ok (.iload_n 2, 1) := by decide +kernel
theorem dX8_lots_47 : decode cX8_lots 47 = .ok (.istore 5, 2) := by decide +kernel
theorem dX8_lots_49 : decode cX8_lots 49 = .ok (.iconst 0, 1) := by decide +kernel
theorem dX8_lots_50 : decode cX8_lots 50 = .ok (.istore 6, 2) := by decide +kernel
theorem dX8_lots_52 : decode cX8_lots 52 = .ok (.iconst 0, 1) := by decide +kernel
theorem dX8_lots_53 : decode cX8_lots 53 = .ok (.istore 7, 2) := by decide +kernel
theorem dX8_lots_55 : decode cX8_lots 55 = .ok (.iload 7, 2) := by decide +kernel
theorem dX8_lots_57 : decode cX8_lots 57 = .ok (.iload_n 1, 1) := by decide +kernel
theorem dX8_lots_58 : decode cX8_lots 58 = .ok (.if_icmp .ge 43, 3) := by decide +kernel
theorem dX8_lots_61 : decode cX8_lots 61 = .ok (.aload_n 0, 1) := by decide +kernel
theorem dX8_lots_62 : decode cX8_lots 62 = .ok (.iload 5, 2) := by decide +kernel
theorem dX8_lots_64 : decode cX8_lots 64 = .ok (.invokevirtual 282, 3) := by decide +kernel
theorem dX8_lots_67 : decode cX8_lots 67 = .ok (.istore 5, 2) := by decide +kernel
theorem dX8_lots_69 : decode cX8_lots 69 = .ok (.iload 6, 2) := by decide +kernel
theorem dX8_lots_71 : decode cX8_lots 71 = .ok (.iload_n 3, 1) := by decide +kernel
theorem dX8_lots_72 : decode cX8_lots 72 = .ok (.ifCond .ne 13, 3) := by decide +kernel
theorem dX8_lots_75 : decode cX8_lots 75 = .ok (.aload_n 0, 1) := by decide +kernel
theorem dX8_lots_76 : decode cX8_lots 76 = .ok (.getfield 36, 3) := by decide +kernel
theorem dX8_lots_79 : decode cX8_lots 79 = .ok (.invokevirtual 218, 3) := by decide +kernel
theorem dX8_lots_82 : decode cX8_lots 82 = .ok (.goto 10, 3) := by decide +kernel
theorem dX8_lots_85 : decode cX8_lots 85 = .ok (.aload_n 0, 1) := by decide +kernel
theorem dX8_lots_86 : decode cX8_lots 86 = .ok (.getfield 36, 3) := by decide +kernel
theorem dX8_lots_89 : decode cX8_lots 89 = .ok (.invokevirtual 285, 3) := by decide +kernel
theorem dX8_lots_92 : decode cX8_lots 92 = .ok (.iadd, 1) := by decide +kernel
theorem dX8_lots_93 : decode cX8_lots 93 = .ok (.istore 6, 2) := by decide +kernel
theorem dX8_lots_95 : decode cX8_lots 95 = .ok (.iinc 7 1, 3) := by decide +kernel
theorem dX8_lots_98 : decode cX8_lots 98 = .ok (.goto (-43), 3) := by decide +kernel
theorem dX8_lots_101 : decode cX8_lots 101 = .ok (.iload 6, 2) := by decide +kernel
theorem dX8_lots_103 : decode cX8_lots 103 = .ok (.ireturn, 1) := by decide +kernel
theorem dX8_drawTown_0 : decode cX8_drawTown 0 = .ok (.iload_n 1, 1) := by decide +kernel
theorem dX8_drawTown_1 : decode cX8_drawTown 1 = .ok (.istore_n 2, 1) := by decide +kernel
theorem dX8_drawTown_2 : decode cX8_drawTown 2 = .ok (.aload_n 0, 1) := by decide +kernel
theorem dX8_drawTown_3 : decode cX8_drawTown 3 = .ok (.getfield 36, 3) := by decide +kernel
theorem dX8_drawTown_6 : decode cX8_drawTown 6 = .ok (.aload_n 0, 1) := by decide +kernel
theorem dX8_drawTown_7 : decode cX8_drawTown 7 = .ok (.getfield 30, 3) := by decide +kernel
theorem dX8_drawTown_10 : decode cX8_drawTown 10 = .ok (.invokevirtual 88, 3) := by decide +kernel
theorem dX8_drawTown_13 : decode cX8_drawTown 13 = .ok (.iconst 0, 1) := by decide +kernel
theorem dX8_drawTown_14 : decode cX8_drawTown 14 = .ok (.istore_n 3, 1) := by decide +kernel
theorem dX8_drawTown_15 : decode cX8_drawTown 15 = .ok (.iload_n 3, 1) := by decide +kernel
theorem dX8_drawTown_16 : decode cX8_drawTown 16 = .ok (.iconst 4, 1) := by decide +kernel
theorem dX8_drawTown_17 : decode cX8_drawTown 17 = .ok (.if_icmp .ge 70, 3) := by decide +kernel
theorem dX8_drawTown_20 : decode cX8_drawTown 20 = .ok (.iload_n 2, 1) := by decide +kernel
theorem dX8_drawTown_21 : decode cX8_drawTown 21 = .ok (.invokestatic 288, 3) := by decide +kernel
theorem dX8_drawTown_24 : decode cX8_drawTown 24 = .ok (.istore_n 2, 1) := by decide +kernel
theorem dX8_drawTown_25 : decode cX8_drawTown 25 = .ok (.aload_n 0, 1) := by decide +kernel
theorem dX8_drawTown_26 : decode cX8_drawTown 26 = .ok (.getfield 30, 3) := by decide +kernel
theorem dX8_drawTown_29 : decode cX8_drawTown 29 = .ok (.getfield 192, 3) := by decide +kernel
theorem dX8_drawTown_32 : decode cX8_drawTown 32 = .ok (.iload_n 2, 1) := by decide +kernel
theorem dX8_drawTown_33 : decode cX8_drawTown 33 = .ok (.invokestatic 291, 3) := by decide +kernel
theorem dX8_drawTown_36 : decode cX8_drawTown 36 = .ok (.istore 4, 2) := by decide +kernel
theorem dX8_drawTown_38 : decode cX8_drawTown 38 = .ok (.iload_n 2, 1) := by decide +kernel
theorem dX8_drawTown_39 : decode cX8_drawTown 39 = .ok (.invokestatic 288, 3) := by decide +kernel
theorem dX8_drawTown_42 : decode cX8_drawTown 42 = .ok (.istore_n 2, 1) := by decide +kernel
theorem dX8_drawTown_43 : decode cX8_drawTown 43 = .ok (.aload_n 0, 1) := by decide +kernel
theorem dX8_drawTown_44 : decode cX8_drawTown 44 = .ok (.getfield 30, 3) := by decide +kernel
theorem dX8_drawTown_47 : decode cX8_drawTown 47 = .ok (.getfield 192, 3) := by decide +kernel
theorem dX8_drawTown_50 : decode cX8_drawTown 50 = .ok (.iload_n 2, 1) := by decide +kernel
theorem dX8_drawTown_51 : decode cX8_drawTown 51 = .ok (.invokestatic 291, 3) := by decide +kernel
theorem dX8_drawTown_54 : decode cX8_drawTown 54 = .ok (.istore 5, 2) := by decide +kernel
theorem dX8_drawTown_56 : decode cX8_drawTown 56 = .ok (.aload_n 0, 1) := by decide +kernel
theorem dX8_drawTown_57 : decode cX8_drawTown 57 = .ok (.getfield 36, 3) := by decide +kernel
theorem dX8_drawTown_60 : decode cX8_drawTown 60 = .ok (.iload 4, 2) := by decide +kernel
theorem dX8_drawTown_62 : decode cX8_drawTown 62 = .ok (.iload 5, 2) := by decide +kernel
theorem dX8_drawTown_64 : decode cX8_drawTown 64 = .ok (.invokevirtual 130, 3) := by decide +kernel
theorem dX8_drawTown_67 : decode cX8_drawTown 67 = .ok (.ifCond .eq 14, 3) := by decide +kernel
theorem dX8_drawTown_70 : decode cX8_drawTown 70 = .ok (.aload_n 0, 1) := by decide +kernel
theorem dX8_drawTown_71 : decode cX8_drawTown 71 = .ok (.getfield 36, 3) := by decide +kernel
theorem dX8_drawTown_74 : decode cX8_drawTown 74 = .ok (.iload 4, 2) := by decide +kernel
theorem dX8_drawTown_76 : decode cX8_drawTown 76 = .ok (.iload 5, 2) := by decide +kernel
theorem dX8_drawTown_78 : decode cX8_drawTown 78 = .ok (.invokevirtual 134, 3) := by decide +kernel
theorem dX8_drawTown_81 : decode cX8_drawTown 81 = .ok (.iinc 3 1, 3) := by decide +kernel
theorem dX8_drawTown_84 : decode cX8_drawTown 84 = .ok (.goto (-69), 3) := by decide +kernel
theorem dX8_drawTown_87 : decode cX8_drawTown 87 = .ok (.aload_n 0, 1) := by decide +kernel
theorem dX8_drawTown_88 : decode cX8_drawTown 88 = .ok (.getfield 36, 3) := by decide +kernel
theorem dX8_drawTown_91 : decode cX8_drawTown 91 = .ok (.bipush 6, 2) := by decide +kernel
theorem dX8_drawTown_93 : decode cX8_drawTown 93 = .ok (.invokevirtual 166, 3) := by decide +kernel
theorem dX8_drawTown_96 : decode cX8_drawTown 96 = .ok (.iload_n 2, 1) := by decide +kernel
theorem dX8_drawTown_97 : decode cX8_drawTown 97 = .ok (.ireturn, 1) := by decide +kernel
theorem dX8_nextSeed_0 : decode cX8_nextSeed 0 = .ok (.iload_n 0, 1) := by decide +kernel
theorem dX8_nextSeed_1 : decode cX8_nextSeed 1 = .ok (.ldc_w 294, 3) := by decide +kernel
theorem dX8_nextSeed_4 : decode cX8_nextSeed 4 = .ok (.imul, 1) := by decide +kernel
theorem dX8_nextSeed_5 : decode cX8_nextSeed 5 = .ok (.ldc_w 295, 3) := by decide +kernel
theorem dX8_nextSeed_8 : decode cX8_nextSeed 8 = .ok (.iadd, 1) := by decide +kernel
theorem dX8_nextSeed_9 : decode cX8_nextSeed 9 = .ok (.ireturn, 1) := by decide +kernel
theorem dX8_drawBelow_0 : decode cX8_drawBelow 0 = .ok (.iload_n 0, 1) := by decide +kernel
theorem dX8_drawBelow_1 : decode cX8_drawBelow 1 = .ok (.ifCond .gt 7, 3) := by decide +kernel
theorem dX8_drawBelow_4 : decode cX8_drawBelow 4 = .ok (.iconst 0, 1) := by decide +kernel
theorem dX8_drawBelow_5 : decode cX8_drawBelow 5 = .ok (.goto 14, 3) := by decide +kernel
theorem dX8_drawBelow_8 : decode cX8_drawBelow 8 = .ok (.iload_n 1, 1) := by decide +kernel
theorem dX8_drawBelow_9 : decode cX8_drawBelow 9 = .ok (.ldc_w 298, 3) := by decide +kernel
theorem dX8_drawBelow_12 : decode cX8_drawBelow 12 = .ok (.iand, 1) := by decide +kernel
theorem dX8_drawBelow_13 : decode cX8_drawBelow 13 = .ok (.sipush 256, 3) := by decide +kernel
theorem dX8_drawBelow_16 : decode cX8_drawBelow 16 = .ok (.idiv, 1) := by decide +kernel
theorem dX8_drawBelow_17 : decode cX8_drawBelow 17 = .ok (.iload_n 0, 1) := by decide +kernel
theorem dX8_drawBelow_18 : decode cX8_drawBelow 18 = .ok (.irem, 1) := by decide +kernel
theorem dX8_drawBelow_19 : decode cX8_drawBelow 19 = .ok (.ireturn, 1) := by decide +kernel
theorem dX8_image_0 : decode cX8_image 0 = .ok (.aload_n 0, 1) := by decide +kernel
theorem dX8_image_1 : decode cX8_image 1 = .ok (.getfield 39, 3) := by decide +kernel
theorem dX8_image_4 : decode cX8_image 4 = .ok (.aload_n 0, 1) := by decide +kernel
theorem dX8_image_5 : decode cX8_image 5 = .ok (.getfield 30, 3) := by decide +kernel
theorem dX8_image_8 : decode cX8_image 8 = .ok (.invokevirtual 88, 3) := by decide +kernel
theorem dX8_image_11 : decode cX8_image 11 = .ok (.aload_n 0, 1) := by decide +kernel
theorem dX8_image_12 : decode cX8_image 12 = .ok (.iconst 1, 1) := by decide +kernel
theorem dX8_image_13 : decode cX8_image 13 = .ok (.putfield 69, 3) := by decide +kernel
theorem dX8_image_16 : decode cX8_image 16 = .ok (.aload_n 0, 1) := by decide +kernel
theorem dX8_image_17 : decode cX8_image 17 = .ok (.getfield 30, 3) := by decide +kernel
theorem dX8_image_20 : decode cX8_image 20 = .ok (.getfield 163, 3) := by decide +kernel
theorem dX8_image_23 : decode cX8_image 23 = .ok (.ireturn, 1) := by decide +kernel
theorem dX8_on_0 : decode cX8_on 0 = .ok (.aload_n 0, 1) := by decide +kernel
theorem dX8_on_1 : decode cX8_on 1 = .ok (.getfield 69, 3) := by decide +kernel
theorem dX8_on_4 : decode cX8_on 4 = .ok (.ifCond .ne 10, 3) := by decide +kernel
theorem dX8_on_7 : decode cX8_on 7 = .ok (.aload_n 0, 1) := by decide +kernel
theorem dX8_on_8 : decode cX8_on 8 = .ok (.bipush (-3), 2) := by decide +kernel
theorem dX8_on_10 : decode cX8_on 10 = .ok (.invokevirtual 77, 3) := by decide +kernel
theorem dX8_on_13 : decode cX8_on 13 = .ok (.ireturn, 1) := by decide +kernel
theorem dX8_on_14 : decode cX8_on 14 = .ok (.aload_n 0, 1) := by decide +kernel
theorem dX8_on_15 : decode cX8_on 15 = .ok (.getfield 30, 3) := by decide +kernel
theorem dX8_on_18 : decode cX8_on 18 = .ok (.aload_n 0, 1) := by decide +kernel
theorem dX8_on_19 : decode cX8_on 19 = .ok (.getfield 39, 3) := by decide +kernel
theorem dX8_on_22 : decode cX8_on 22 = .ok (.invokevirtual 88, 3) := by decide +kernel
theorem dX8_on_25 : decode cX8_on 25 = .ok (.aload_n 0, 1) := by decide +kernel
theorem dX8_on_26 : decode cX8_on 26 = .ok (.getfield 30, 3) := by decide +kernel
theorem dX8_on_29 : decode cX8_on 29 = .ok (.getfield 163, 3) := by decide +kernel
theorem dX8_on_32 : decode cX8_on 32 = .ok (.ireturn, 1) := by decide +kernel
theorem dX8_count_0 : decode cX8_count 0 = .ok (.iload_n 1, 1) := by decide +kernel
theorem dX8_count_1 : decode cX8_count 1 = .ok (.bipush 11, 2) := by decide +kernel
theorem dX8_count_3 : decode cX8_count 3 = .ok (.if_icmp .lt 19, 3) := by decide +kernel
theorem dX8_count_6 : decode cX8_count 6 = .ok (.iload_n 1, 1) := by decide +kernel
theorem dX8_count_7 : decode cX8_count 7 = .ok (.bipush 16, 2) := by decide +kernel
theorem dX8_count_9 : decode cX8_count 9 = .ok (.if_icmp .gt 13, 3) := by decide +kernel
theorem dX8_count_12 : decode cX8_count 12 = .ok (.aload_n 0, 1) := by decide +kernel
theorem dX8_count_13 : decode cX8_count 13 = .ok (.getfield 53, 3) := by decide +kernel
theorem dX8_count_16 : decode cX8_count 16 = .ok (.iload_n 1, 1) := by decide +kernel
theorem dX8_count_17 : decode cX8_count 17 = .ok (.bipush 10, 2) := by decide +kernel
theorem dX8_count_19 : decode cX8_count 19 = .ok (.isub, 1) := by decide +kernel
theorem dX8_count_20 : decode cX8_count 20 = .ok (.iaload, 1) := by decide +kernel
theorem dX8_count_21 : decode cX8_count 21 = .ok (.ireturn, 1) := by decide +kernel
theorem dX8_count_22 : decode cX8_count 22 = .ok (.iload_n 1, 1) := by decide +kernel
theorem dX8_count_23 : decode cX8_count 23 = .ok (.tableswitch 106 0 7 #[45, 53, 61, 69, 77, 85, 93, 98], 45) := by decide +kernel
theorem dX8_count_68 : decode cX8_count 68 = .ok (.aload_n 0, 1) := by decide +kernel
theorem dX8_count_69 : decode cX8_count 69 = .ok (.getfield 30, 3) := by decide +kernel
theorem dX8_count_72 : decode cX8_count 72 = .ok (.getfield 192, 3) := by decide +kernel
theorem dX8_count_75 : decode cX8_count 75 = .ok (.ireturn, 1) := by decide +kernel
theorem dX8_count_76 : decode cX8_count 76 = .ok (.aload_n 0, 1) := by decide +kernel
theorem dX8_count_77 : decode cX8_count 77 = .ok (.getfield 30, 3) := by decide +kernel
theorem dX8_count_80 : decode cX8_count 80 = .ok (.getfield 163, 3) := by decide +kernel
theorem dX8_count_83 : decode cX8_count 83 = .ok (.ireturn, 1) := by decide +kernel
theorem dX8_count_84 : decode cX8_count 84 = .ok (.aload_n 0, 1) := by decide +kernel
theorem dX8_count_85 : decode cX8_count 85 = .ok (.getfield 30, 3) := by decide +kernel
theorem dX8_count_88 : decode cX8_count 88 = .ok (.invokevirtual 138, 3) := by decide +kernel
theorem dX8_count_91 : decode cX8_count 91 = .ok (.ireturn, 1) := by decide +kernel
theorem dX8_count_92 : decode cX8_count 92 = .ok (.aload_n 0, 1) := by decide +kernel
theorem dX8_count_93 : decode cX8_count 93 = .ok (.getfield 30, 3) := by decide +kernel
theorem dX8_count_96 : decode cX8_count 96 = .ok (.invokevirtual 260, 3) := by decide +kernel
theorem dX8_count_99 : decode cX8_count 99 = .ok (.ireturn, 1) := by decide +kernel
theorem dX8_count_100 : decode cX8_count 100 = .ok (.aload_n 0, 1) := by decide +kernel
theorem dX8_count_101 : decode cX8_count 101 = .ok (.getfield 30, 3) := by decide +kernel
theorem dX8_count_104 : decode cX8_count 104 = .ok (.invokevirtual 285, 3) := by decide +kernel
theorem dX8_count_107 : decode cX8_count 107 = .ok (.ireturn, 1) := by decide +kernel
theorem dX8_count_108 : decode cX8_count 108 = .ok (.aload_n 0, 1) := by decide +kernel
theorem dX8_count_109 : decode cX8_count 109 = .ok (.getfield 30, 3) := by decide +kernel
theorem dX8_count_112 : decode cX8_count 112 = .ok (.invokevirtual 198, 3) := by decide +kernel
theorem dX8_count_115 : decode cX8_count 115 = .ok (.ireturn, 1) := by decide +kernel
theorem dX8_count_116 : decode cX8_count 116 = .ok (.aload_n 0, 1) := by decide +kernel
theorem dX8_count_117 : decode cX8_count 117 = .ok (.getfield 65, 3) := by decide +kernel
theorem dX8_count_120 : decode cX8_count 120 = .ok (.ireturn, 1) := by decide +kernel
theorem dX8_count_121 : decode cX8_count 121 = .ok (.aload_n 0, 1) := by decide +kernel
theorem dX8_count_122 : decode cX8_count 122 = .ok (.getfield 45, 3) := by decide +kernel
theorem dX8_count_125 : decode cX8_count 125 = .ok (.getfield 85, 3) := by decide +kernel
theorem dX8_count_128 : decode cX8_count 128 = .ok (.ireturn, 1) := by decide +kernel
theorem dX8_count_129 : decode cX8_count 129 = .ok (.bipush (-9), 2) := by decide +kernel
theorem dX8_count_131 : decode cX8_count 131 = .ok (.ireturn, 1) := by decide +kernel
theorem dX8_personFault_0 : decode cX8_personFault 0 = .ok (.aload_n 0, 1) := by decide +kernel
theorem dX8_personFault_1 : decode cX8_personFault 1 = .ok (.getfield 30, 3) := by decide +kernel
theorem dX8_personFault_4 : decode cX8_personFault 4 = .ok (.iload_n 1, 1) := by decide +kernel
theorem dX8_personFault_5 : decode cX8_personFault 5 = .ok (.invokevirtual 299, 3) := by decide +kernel
theorem dX8_personFault_8 : decode cX8_personFault 8 = .ok (.ifCond .eq 7, 3) := by decide +kernel
theorem dX8_personFault_11 : decode cX8_personFault 11 = .ok (.iconst 0, 1) := by decide +kernel
theorem dX8_personFault_12 : decode cX8_personFault 12 = .ok (.goto 4, 3) := by decide +kernel
theorem dX8_personFault_15 : decode cX8_personFault 15 = .ok (.iconst (-1), 1) := by decide +kernel
theorem dX8_personFault_16 : decode cX8_personFault 16 = .ok (.ireturn, 1) := by decide +kernel
theorem dX8_twoFault_0 : decode cX8_twoFault 0 = .ok (.iload_n 1, 1) := by decide +kernel
theorem dX8_twoFault_1 : decode cX8_twoFault 1 = .ok (.iload_n 2, 1) := by decide +kernel
theorem dX8_twoFault_2 : decode cX8_twoFault 2 = .ok (.if_icmp .ne 7, 3) := by decide +kernel
theorem dX8_twoFault_5 : decode cX8_twoFault 5 = .ok (.iconst (-1), 1) := by decide +kernel
theorem dX8_twoFault_6 : decode cX8_twoFault 6 = .ok (.goto 16, 3) := by decide +kernel
theorem dX8_twoFault_9 : decode cX8_twoFault 9 = .ok (.aload_n 0, 1) := by decide +kernel
theorem dX8_twoFault_10 : decode cX8_twoFault 10 = .ok (.iload_n 1, 1) := by decide +kernel
theorem dX8_twoFault_11 : decode cX8_twoFault 11 = .ok (.invokevirtual 96, 3) := by decide +kernel
theorem dX8_twoFault_14 : decode cX8_twoFault 14 = .ok (.aload_n 0, 1) := by decide +kernel
theorem dX8_twoFault_15 : decode cX8_twoFault 15 = .ok (.iload_n 2, 1) := by decide +kernel
theorem dX8_twoFault_16 : decode cX8_twoFault 16 = .ok (.invokevirtual 96, 3) := by decide +kernel
theorem dX8_twoFault_19 : decode cX8_twoFault 19 = .ok (.invokestatic 103, 3) := by decide +kernel
theorem dX8_twoFault_22 : decode cX8_twoFault 22 = .ok (.ireturn, 1) := by decide +kernel
theorem dX8_whatFault_0 : decode cX8_whatFault 0 = .ok (.iload_n 0, 1) := by decide +kernel
theorem dX8_whatFault_1 : decode cX8_whatFault 1 = .ok (.ifCond .lt 12, 3) := by decide +kernel
theorem dX8_whatFault_4 : decode cX8_whatFault 4 = .ok (.iload_n 0, 1) := by decide +kernel
theorem dX8_whatFault_5 : decode cX8_whatFault 5 = .ok (.iload_n 1, 1) := by decide +kernel
theorem dX8_whatFault_6 : decode cX8_whatFault 6 = .ok (.if_icmp .ge 7, 3) := by decide +kernel
theorem dX8_whatFault_9 : decode cX8_whatFault 9 = .ok (.iconst 0, 1) := by decide +kernel
theorem dX8_whatFault_10 : decode cX8_whatFault 10 = .ok (.goto 5, 3) := by decide +kernel
theorem dX8_whatFault_13 : decode cX8_whatFault 13 = .ok (.bipush (-2), 2) := by decide +kernel
theorem dX8_whatFault_15 : decode cX8_whatFault 15 = .ok (.ireturn, 1) := by decide +kernel
theorem dX8_leastFault_0 : decode cX8_leastFault 0 = .ok (.iload_n 0, 1) := by decide +kernel
theorem dX8_leastFault_1 : decode cX8_leastFault 1 = .ok (.iload_n 1, 1) := by decide +kernel
theorem dX8_leastFault_2 : decode cX8_leastFault 2 = .ok (.if_icmp .ge 8, 3) := by decide +kernel
theorem dX8_leastFault_5 : decode cX8_leastFault 5 = .ok (.bipush (-4), 2) := by decide +kernel
theorem dX8_leastFault_7 : decode cX8_leastFault 7 = .ok (.goto 4, 3) := by decide +kernel
theorem dX8_leastFault_10 : decode cX8_leastFault 10 = .ok (.iconst 0, 1) := by decide +kernel
theorem dX8_leastFault_11 : decode cX8_leastFault 11 = .ok (.ireturn, 1) := by decide +kernel
theorem dX8_mostFault_0 : decode cX8_mostFault 0 = .ok (.iload_n 0, 1) := by decide +kernel
theorem dX8_mostFault_1 : decode cX8_mostFault 1 = .ok (.iload_n 1, 1) := by decide +kernel
theorem dX8_mostFault_2 : decode cX8_mostFault 2 = .ok (.if_icmp .le 8, 3) := by decide +kernel
theorem dX8_mostFault_5 : decode cX8_mostFault 5 = .ok (.bipush (-6), 2) := by decide +kernel
theorem dX8_mostFault_7 : decode cX8_mostFault 7 = .ok (.goto 4, 3) := by decide +kernel
theorem dX8_mostFault_10 : decode cX8_mostFault 10 = .ok (.iconst 0, 1) := by decide +kernel
theorem dX8_mostFault_11 : decode cX8_mostFault 11 = .ok (.ireturn, 1) := by decide +kernel
theorem dX8_rangeFault_0 : decode cX8_rangeFault 0 = .ok (.iload_n 0, 1) := by decide +kernel
theorem dX8_rangeFault_1 : decode cX8_rangeFault 1 = .ok (.iload_n 1, 1) := by decide +kernel
theorem dX8_rangeFault_2 : decode cX8_rangeFault 2 = .ok (.invokestatic 233, 3) := by decide +kernel
theorem dX8_rangeFault_5 : decode cX8_rangeFault 5 = .ok (.iload_n 0, 1) := by decide +kernel
theorem dX8_rangeFault_6 : decode cX8_rangeFault 6 = .ok (.iload_n 2, 1) := by decide +kernel
theorem dX8_rangeFault_7 : decode cX8_rangeFault 7 = .ok (.invokestatic 236, 3) := by decide +kernel
theorem dX8_rangeFault_10 : decode cX8_rangeFault 10 = .ok (.invokestatic 103, 3) := by decide +kernel
theorem dX8_rangeFault_13 : decode cX8_rangeFault 13 = .ok (.ireturn, 1) := by decide +kernel
theorem dX8_firstOf_0 : decode cX8_firstOf 0 = .ok (.iload_n 0, 1) := by decide +kernel
theorem dX8_firstOf_1 : decode cX8_firstOf 1 = .ok (.ifCond .eq 7, 3) := by decide +kernel
theorem dX8_firstOf_4 : decode cX8_firstOf 4 = .ok (.iload_n 0, 1) := by decide +kernel
theorem dX8_firstOf_5 : decode cX8_firstOf 5 = .ok (.goto 4, 3) := by decide +kernel
theorem dX8_firstOf_8 : decode cX8_firstOf 8 = .ok (.iload_n 1, 1) := by decide +kernel
theorem dX8_firstOf_9 : decode cX8_firstOf 9 = .ok (.ireturn, 1) := by decide +kernel
theorem dX8_firstOfThree_0 : decode cX8_firstOfThree 0 = .ok (.iload_n 0, 1) := by decide +kernel
theorem dX8_firstOfThree_1 : decode cX8_firstOfThree 1 = .ok (.iload_n 1, 1) := by decide +kernel
theorem dX8_firstOfThree_2 : decode cX8_firstOfThree 2 = .ok (.iload_n 2, 1) := by decide +kernel
theorem dX8_firstOfThree_3 : decode cX8_firstOfThree 3 = .ok (.invokestatic 103, 3) := by decide +kernel
theorem dX8_firstOfThree_6 : decode cX8_firstOfThree 6 = .ok (.invokestatic 103, 3) := by decide +kernel
theorem dX8_firstOfThree_9 : decode cX8_firstOfThree 9 = .ok (.ireturn, 1) := by decide +kernel
theorem dX8_refuse_0 : decode cX8_refuse 0 = .ok (.aload_n 0, 1) := by decide +kernel
theorem dX8_refuse_1 : decode cX8_refuse 1 = .ok (.getfield 53, 3) := by decide +kernel
theorem dX8_refuse_4 : decode cX8_refuse 4 = .ok (.iload_n 1, 1) := by decide +kernel
theorem dX8_refuse_5 : decode cX8_refuse 5 = .ok (.ineg, 1) := by decide +kernel
theorem dX8_refuse_6 : decode cX8_refuse 6 = .ok (.dup2, 1) := by decide +kernel
theorem dX8_refuse_7 : decode cX8_refuse 7 = .ok (.iaload, 1) := by decide +kernel
theorem dX8_refuse_8 : decode cX8_refuse 8 = .ok (.iconst 1, 1) := by decide +kernel
theorem dX8_refuse_9 : decode cX8_refuse 9 = .ok (.iadd, 1) := by decide +kernel
theorem dX8_refuse_10 : decode cX8_refuse 10 = .ok (.iastore, 1) := by decide +kernel
theorem dX8_refuse_11 : decode cX8_refuse 11 = .ok (.iload_n 1, 1) := by decide +kernel
theorem dX8_refuse_12 : decode cX8_refuse 12 = .ok (.ireturn, 1) := by decide +kernel
theorem dX8_refuseFarOff_0 : decode cX8_refuseFarOff 0 = .ok (.ldc_w 302, 3) := by decide +kernel
theorem dX8_refuseFarOff_3 : decode cX8_refuseFarOff 3 = .ok (.aload_n 0, 1) := by decide +kernel
theorem dX8_refuseFarOff_4 : decode cX8_refuseFarOff 4 = .ok (.iload_n 1, 1) := by decide +kernel
theorem dX8_refuseFarOff_5 : decode cX8_refuseFarOff 5 = .ok (.invokevirtual 77, 3) := by decide +kernel
theorem dX8_refuseFarOff_8 : decode cX8_refuseFarOff 8 = .ok (.isub, 1) := by decide +kernel
theorem dX8_refuseFarOff_9 : decode cX8_refuseFarOff 9 = .ok (.ireturn, 1) := by decide +kernel
theorem dX8_refuseLong_0 : decode cX8_refuseLong 0 = .ok (.ldc2_w 303, 3) := by decide +kernel
theorem dX8_refuseLong_3 : decode cX8_refuseLong 3 = .ok (.aload_n 0, 1) := by decide +kernel
theorem dX8_refuseLong_4 : decode cX8_refuseLong 4 = .ok (.iload_n 1, 1) := by decide +kernel
theorem dX8_refuseLong_5 : decode cX8_refuseLong 5 = .ok (.invokevirtual 77, 3) := by decide +kernel
theorem dX8_refuseLong_8 : decode cX8_refuseLong 8 = .ok (.i2l, 1) := by decide +kernel
theorem dX8_refuseLong_9 : decode cX8_refuseLong 9 = .ok (.lsub, 1) := by decide +kernel
theorem dX8_refuseLong_10 : decode cX8_refuseLong 10 = .ok (.lreturn, 1) := by decide +kernel
theorem dX8_withinMarks_0 : decode cX8_withinMarks 0 = .ok (.iconst 0, 1) := by decide +kernel
theorem dX8_withinMarks_1 : decode cX8_withinMarks 1 = .ok (.bipush 99, 2) := by decide +kernel
theorem dX8_withinMarks_3 : decode cX8_withinMarks 3 = .ok (.iload_n 0, 1) := by decide +kernel
theorem dX8_withinMarks_4 : decode cX8_withinMarks 4 = .ok (.invokestatic 255, 3) := by decide +kernel
theorem dX8_withinMarks_7 : decode cX8_withinMarks 7 = .ok (.invokestatic 263, 3) := by decide +kernel
theorem dX8_withinMarks_10 : decode cX8_withinMarks 10 = .ok (.ireturn, 1) := by decide +kernel
theorem dX9_init_0 : decode cX9_init 0 = .ok (.aload_n 0, 1) := by decide +kernel
theorem dX9_init_1 : decode cX9_init 1 = .ok (.invokespecial 1, 3) := by decide +kernel
theorem dX9_init_4 : decode cX9_init 4 = .ok (.aload_n 0, 1) := by decide +kernel
theorem dX9_init_5 : decode cX9_init 5 = .ok (.bipush 58, 2) := by decide +kernel
theorem dX9_init_7 : decode cX9_init 7 = .ok (.newarray .int, 2) := by decide +kernel
theorem dX9_init_9 : decode cX9_init 9 = .ok (.putfield 9, 3) := by decide +kernel
theorem dX9_init_12 : decode cX9_init 12 = .ok (.aload_n 0, 1) := by decide +kernel
theorem dX9_init_13 : decode cX9_init 13 = .ok (.bipush 58, 2) := by decide +kernel
theorem dX9_init_15 : decode cX9_init 15 = .ok (.newarray .int, 2) := by decide +kernel
theorem dX9_init_17 : decode cX9_init 17 = .ok (.putfield 13, 3) := by decide +kernel
theorem dX9_init_20 : decode cX9_init 20 = .ok (.aload_n 0, 1) := by decide +kernel
theorem dX9_init_21 : decode cX9_init 21 = .ok (.bipush 58, 2) := by decide +kernel
theorem dX9_init_23 : decode cX9_init 23 = .ok (.newarray .int, 2) := by decide +kernel
theorem dX9_init_25 : decode cX9_init 25 = .ok (.putfield 16, 3) := by decide +kernel
theorem dX9_init_28 : decode cX9_init 28 = .ok (.aload_n 0, 1) := by decide +kernel
theorem dX9_init_29 : decode cX9_init 29 = .ok (.bipush 58, 2) := by decide +kernel
theorem dX9_init_31 : decode cX9_init 31 = .ok (.newarray .int, 2) := by decide +kernel
theorem dX9_init_33 : decode cX9_init 33 = .ok (.putfield 19, 3) := by decide +kernel
theorem dX9_init_36 : decode cX9_init 36 = .ok (.aload_n 0, 1) := by decide +kernel
theorem dX9_init_37 : decode cX9_init 37 = .ok (.bipush 58, 2) := by decide +kernel
theorem dX9_init_39 : decode cX9_init 39 = .ok (.newarray .int, 2) := by decide +kernel
theorem dX9_init_41 : decode cX9_init 41 = .ok (.putfield 22, 3) := by decide +kernel
theorem dX9_init_44 : decode cX9_init 44 = .ok (.aload_n 0, 1) := by decide +kernel
theorem dX9_init_45 : decode cX9_init 45 = .ok (.bipush 96, 2) := by decide +kernel
theorem dX9_init_47 : decode cX9_init 47 = .ok (.newarray .int, 2) := by decide +kernel
theorem dX9_init_49 : decode cX9_init 49 = .ok (.putfield 25, 3) := by decide +kernel
theorem dX9_init_52 : decode cX9_init 52 = .ok (.aload_n 0, 1) := by decide +kernel
theorem dX9_init_53 : decode cX9_init 53 = .ok (.bipush 16, 2) := by decide +kernel
theorem dX9_init_55 : decode cX9_init 55 = .ok (.newarray .int, 2) := by decide +kernel
theorem dX9_init_57 : decode cX9_init 57 = .ok (.putfield 28, 3) := by decide +kernel
theorem dX9_init_60 : decode cX9_init 60 = .ok (.aload_n 0, 1) := by decide +kernel
theorem dX9_init_61 : decode cX9_init 61 = .ok (.bipush 7, 2) := by decide +kernel
theorem dX9_init_63 : decode cX9_init 63 = .ok (.newarray .int, 2) := by decide +kernel
theorem dX9_init_65 : decode cX9_init 65 = .ok (.putfield 31, 3) := by decide +kernel
theorem dX9_init_68 : decode cX9_init 68 = .ok (.aload_n 0, 1) := by decide +kernel
theorem dX9_init_69 : decode cX9_init 69 = .ok (.iconst 2, 1) := by decide +kernel
theorem dX9_init_70 : decode cX9_init 70 = .ok (.newarray .int, 2) := by decide +kernel
theorem dX9_init_72 : decode cX9_init 72 = .ok (.putfield 34, 3) := by decide +kernel
theorem dX9_init_75 : decode cX9_init 75 = .ok (.return_, 1) := by decide +kernel
theorem dX9_isIn_0 : decode cX9_isIn 0 = .ok (.iload_n 0, 1) := by decide +kernel
theorem dX9_isIn_1 : decode cX9_isIn 1 = .ok (.iload_n 1, 1) := by decide +kernel
theorem dX9_isIn_2 : decode cX9_isIn 2 = .ok (.if_icmp .lt 12, 3) := by decide +kernel
theorem dX9_isIn_5 : decode cX9_isIn 5 = .ok (.iload_n 0, 1) := by decide +kernel
theorem dX9_isIn_6 : decode cX9_isIn 6 = .ok (.iload_n 2, 1) := by decide +kernel
theorem dX9_isIn_7 : decode cX9_isIn 7 = .ok (.if_icmp .gt 7, 3) := by decide +kernel
theorem dX9_isIn_10 : decode cX9_isIn 10 = .ok (.iconst 1, 1) := by decide +kernel
theorem dX9_isIn_11 : decode cX9_isIn 11 = .ok (.goto 4, 3) := by decide +kernel
theorem dX9_isIn_14 : decode cX9_isIn 14 = .ok (.iconst 0, 1) := by decide +kernel
theorem dX9_isIn_15 : decode cX9_isIn 15 = .ok (.ireturn, 1) := by decide +kernel
theorem dX9_held_0 : decode cX9_held 0 = .ok (.iload_n 0, 1) := by decide +kernel
theorem dX9_held_1 : decode cX9_held 1 = .ok (.ifCond .ge 7, 3) := by decide +kernel
theorem dX9_held_4 : decode cX9_held 4 = .ok (.iconst 0, 1) := by decide +kernel
theorem dX9_held_5 : decode cX9_held 5 = .ok (.goto 15, 3) := by decide +kernel
theorem dX9_held_8 : decode cX9_held 8 = .ok (.iload_n 0, 1) := by decide +kernel
theorem dX9_held_9 : decode cX9_held 9 = .ok (.bipush 99, 2) := by decide +kernel
theorem dX9_held_11 : decode cX9_held 11 = .ok (.if_icmp .le 8, 3) := by decide +kernel
theorem dX9_held_14 : decode cX9_held 14 = .ok (.bipush 99, 2) := by decide +kernel
theorem dX9_held_16 : decode cX9_held 16 = .ok (.goto 4, 3) := by decide +kernel
theorem dX9_held_19 : decode cX9_held 19 = .ok (.iload_n 0, 1) := by decide +kernel
theorem dX9_held_20 : decode cX9_held 20 = .ok (.ireturn, 1) := by decide +kernel
theorem dX9_copies_0 : decode cX9_copies 0 = .ok (.iconst 0, 1) := by decide +kernel
theorem dX9_copies_1 : decode cX9_copies 1 = .ok (.istore_n 2, 1) := by decide +kernel
theorem dX9_copies_2 : decode cX9_copies 2 = .ok (.iload_n 2, 1) := by decide +kernel
theorem dX9_copies_3 : decode cX9_copies 3 = .ok (.bipush 58, 2) := by decide +kernel
theorem dX9_copies_5 : decode cX9_copies 5 = .ok (.if_icmp .ge 15, 3) := by decide +kernel
theorem dX9_copies_8 : decode cX9_copies 8 = .ok (.aload_n 1, 1) := by decide +kernel
theorem dX9_copies_9 : decode cX9_copies 9 = .ok (.iload_n 2, 1) := by decide +kernel
theorem dX9_copies_10 : decode cX9_copies 10 = .ok (.aload_n 0, 1) := by decide +kernel
theorem dX9_copies_11 : decode cX9_copies 11 = .ok (.iload_n 2, 1) := by decide +kernel
theorem dX9_copies_12 : decode cX9_copies 12 = .ok (.iaload, 1) := by decide +kernel
theorem dX9_copies_13 : decode cX9_copies 13 = .ok (.iastore, 1) := by decide +kernel
theorem dX9_copies_14 : decode cX9_copies 14 = .ok (.iinc 2 1, 3) := by decide +kernel
theorem dX9_copies_17 : decode cX9_copies 17 = .ok (.goto (-15), 3) := by decide +kernel
theorem dX9_copies_20 : decode cX9_copies 20 = .ok (.return_, 1) := by decide +kernel
theorem dX9_no_0 : decode cX9_no 0 = .ok (.aload_n 0, 1) := by decide +kernel
theorem dX9_no_1 : decode cX9_no 1 = .ok (.getfield 31, 3) := by decide +kernel
theorem dX9_no_4 : decode cX9_no 4 = .ok (.iload_n 1, 1) := by decide +kernel
theorem dX9_no_5 : decode cX9_no 5 = .ok (.ineg, 1) := by decide +kernel
theorem dX9_no_6 : decode cX9_no 6 = .ok (.dup2, 1) := by decide +kernel
theorem dX9_no_7 : decode cX9_no 7 = .ok (.iaload, 1) := by decide +kernel
theorem dX9_no_8 : decode cX9_no 8 = .ok (.iconst 1, 1) := by decide +kernel
theorem dX9_no_9 : decode cX9_no 9 = .ok (.iadd, 1) := by decide +kernel
theorem dX9_no_10 : decode cX9_no 10 = .ok (.iastore, 1) := by decide +kernel
theorem dX9_no_11 : decode cX9_no 11 = .ok (.iload_n 1, 1) := by decide +kernel
theorem dX9_no_12 : decode cX9_no 12 = .ok (.ireturn, 1) := by decide +kernel
theorem dX9_noFar_0 : decode cX9_noFar 0 = .ok (.ldc 37, 2) := by decide +kernel
theorem dX9_noFar_2 : decode cX9_noFar 2 = .ok (.aload_n 0, 1) := by decide +kernel
theorem dX9_noFar_3 : decode cX9_noFar 3 = .ok (.iload_n 1, 1) := by decide +kernel
theorem dX9_noFar_4 : decode cX9_noFar 4 = .ok (.invokevirtual 38, 3) := by decide +kernel
theorem dX9_noFar_7 : decode cX9_noFar 7 = .ok (.isub, 1) := by decide +kernel
theorem dX9_noFar_8 : decode cX9_noFar 8 = .ok (.ireturn, 1) := by decide +kernel
theorem dX9_noWide_0 : decode cX9_noWide 0 = .ok (.ldc2_w 42, 3) := by decide +kernel
theorem dX9_noWide_3 : decode cX9_noWide 3 = .ok (.aload_n 0, 1) := by decide +kernel
theorem dX9_noWide_4 : decode cX9_noWide 4 = .ok (.iload_n 1, 1) := by decide +kernel
theorem dX9_noWide_5 : decode cX9_noWide 5 = .ok (.invokevirtual 38, 3) := by decide +kernel
theorem dX9_noWide_8 : decode cX9_noWide 8 = .ok (.i2l, 1) := by decide +kernel
theorem dX9_noWide_9 : decode cX9_noWide 9 = .ok (.lsub, 1) := by decide +kernel
theorem dX9_noWide_10 : decode cX9_noWide 10 = .ok (.lreturn, 1) := by decide +kernel
theorem dX9_of_0 : decode cX9_of 0 = .ok (.iconst 2, 1) := by decide +kernel
theorem dX9_of_1 : decode cX9_of 1 = .ok (.bipush 7, 2) := by decide +kernel
theorem dX9_of_3 : decode cX9_of 3 = .ok (.iload_n 0, 1) := by decide +kernel
theorem dX9_of_4 : decode cX9_of 4 = .ok (.imul, 1) := by decide +kernel
theorem dX9_of_5 : decode cX9_of 5 = .ok (.iadd, 1) := by decide +kernel
theorem dX9_of_6 : decode cX9_of 6 = .ok (.iload_n 1, 1) := by decide +kernel
theorem dX9_of_7 : decode cX9_of 7 = .ok (.iadd, 1) := by decide +kernel
theorem dX9_of_8 : decode cX9_of 8 = .ok (.ireturn, 1) := by decide +kernel
theorem dX9_isOne_0 : decode cX9_isOne 0 = .ok (.iload_n 1, 1) := by decide +kernel
theorem dX9_isOne_1 : decode cX9_isOne 1 = .ok (.iconst 0, 1) := by decide +kernel
theorem dX9_isOne_2 : decode cX9_isOne 2 = .ok (.aload_n 0, 1) := by decide +kernel
theorem dX9_isOne_3 : decode cX9_isOne 3 = .ok (.getfield 9, 3) := by decide +kernel
theorem dX9_isOne_6 : decode cX9_isOne 6 = .ok (.iconst 0, 1) := by decide +kernel
theorem dX9_isOne_7 : decode cX9_isOne 7 = .ok (.iaload, 1) := by decide +kernel
theorem dX9_isOne_8 : decode cX9_isOne 8 = .ok (.iconst 1, 1) := by decide +kernel
theorem dX9_isOne_9 : decode cX9_isOne 9 = .ok (.isub, 1) := by decide +kernel
theorem dX9_isOne_10 : decode cX9_isOne 10 = .ok (.invokestatic 44, 3) := by decide +kernel
theorem dX9_isOne_13 : decode cX9_isOne 13 = .ok (.ireturn, 1) := by decide +kernel
theorem dX9_areTwo_0 : decode cX9_areTwo 0 = .ok (.aload_n 0, 1) := by decide +kernel
theorem dX9_areTwo_1 : decode cX9_areTwo 1 = .ok (.iload_n 1, 1) := by decide +kernel
theorem dX9_areTwo_2 : decode cX9_areTwo 2 = .ok (.invokevirtual 48, 3) := by decide +kernel
theorem dX9_areTwo_5 : decode cX9_areTwo 5 = .ok (.ifCond .eq 20, 3) := by decide +kernel
theorem dX9_areTwo_8 : decode cX9_areTwo 8 = .ok (.aload_n 0, 1) := by decide +kernel
theorem dX9_areTwo_9 : decode cX9_areTwo 9 = .ok (.iload_n 2, 1) := by decide +kernel
theorem dX9_areTwo_10 : decode cX9_areTwo 10 = .ok (.invokevirtual 48, 3) := by decide +kernel
theorem dX9_areTwo_13 : decode cX9_areTwo 13 = .ok (.ifCond .eq 12, 3) := by decide +kernel
theorem dX9_areTwo_16 : decode cX9_areTwo 16 = .ok (.iload_n 1, 1) := by decide +kernel
theorem dX9_areTwo_17 : decode cX9_areTwo 17 = .ok (.iload_n 2, 1) := by decide +kernel
theorem dX9_areTwo_18 : decode cX9_areTwo 18 = .ok (.if_icmp .eq 7, 3) := by decide +kernel
theorem dX9_areTwo_21 : decode cX9_areTwo 21 = .ok (.iconst 1, 1) := by decide +kernel
theorem dX9_areTwo_22 : decode cX9_areTwo 22 = .ok (.goto 4, 3) := by decide +kernel
theorem dX9_areTwo_25 : decode cX9_areTwo 25 = .ok (.iconst 0, 1) := by decide +kernel
theorem dX9_areTwo_26 : decode cX9_areTwo 26 = .ok (.ireturn, 1) := by decide +kernel
theorem dX9_has_0 : decode cX9_has 0 = .ok (.iload_n 0, 1) := by decide +kernel
theorem dX9_has_1 : decode cX9_has 1 = .ok (.iload_n 1, 1) := by decide +kernel
theorem dX9_has_2 : decode cX9_has 2 = .ok (.ishr, 1) := by decide +kernel
theorem dX9_has_3 : decode cX9_has 3 = .ok (.iconst 1, 1) := by decide +kernel
theorem dX9_has_4 : decode cX9_has 4 = .ok (.iand, 1) := by decide +kernel
theorem dX9_has_5 : decode cX9_has 5 = .ok (.iconst 1, 1) := by decide +kernel
theorem dX9_has_6 : decode cX9_has 6 = .ok (.if_icmp .ne 7, 3) := by decide +kernel
theorem dX9_has_9 : decode cX9_has 9 = .ok (.iconst 1, 1) := by decide +kernel
theorem dX9_has_10 : decode cX9_has 10 = .ok (.goto 4, 3) := by decide +kernel
theorem dX9_has_13 : decode cX9_has 13 = .ok (.iconst 0, 1) := by decide +kernel
theorem dX9_has_14 : decode cX9_has 14 = .ok (.ireturn, 1) := by decide +kernel
theorem dX9_knowing_0 : decode cX9_knowing 0 = .ok (.iconst 0, 1) := by decide +kernel
theorem dX9_knowing_1 : decode cX9_knowing 1 = .ok (.istore_n 3, 1) := by decide +kernel
theorem dX9_knowing_2 : decode cX9_knowing 2 = .ok (.iconst 0, 1) := by decide +kernel
theorem dX9_knowing_3 : decode cX9_knowing 3 = .ok (.istore 4, 2) := by decide +kernel
theorem dX9_knowing_5 : decode cX9_knowing 5 = .ok (.iload 4, 2) := by decide +kernel
theorem dX9_knowing_7 : decode cX9_knowing 7 = .ok (.aload_n 0, 1) := by decide +kernel
theorem dX9_knowing_8 : decode cX9_knowing 8 = .ok (.iconst 0, 1) := by decide +kernel
theorem dX9_knowing_9 : decode cX9_knowing 9 = .ok (.iaload, 1) := by decide +kernel
theorem dX9_knowing_10 : decode cX9_knowing 10 = .ok (.if_icmp .ge 38, 3) := by decide +kernel
theorem dX9_knowing_13 : decode cX9_knowing 13 = .ok (.iload_n 3, 1) := by decide +kernel
theorem dX9_knowing_14 : decode cX9_knowing 14 = .ok (.iload 4, 2) := by decide +kernel
theorem dX9_knowing_16 : decode cX9_knowing 16 = .ok (.iload_n 2, 1) := by decide +kernel
theorem dX9_knowing_17 : decode cX9_knowing 17 = .ok (.if_icmp .eq 22, 3) := by decide +kernel
theorem dX9_knowing_20 : decode cX9_knowing 20 = .ok (.aload_n 0, 1) := by decide +kernel
theorem dX9_knowing_21 : decode cX9_knowing 21 = .ok (.iload 4, 2) := by decide +kernel
theorem dX9_knowing_23 : decode cX9_knowing 23 = .ok (.iconst 2, 1) := by decide +kernel
theorem dX9_knowing_24 : decode cX9_knowing 24 = .ok (.invokestatic 52, 3) := by decide +kernel
theorem dX9_knowing_27 : decode cX9_knowing 27 = .ok (.iaload, 1) := by decide +kernel
theorem dX9_knowing_28 : decode cX9_knowing 28 = .ok (.iload_n 1, 1) := by decide +kernel
theorem dX9_knowing_29 : decode cX9_knowing 29 = .ok (.invokestatic 56, 3) := by decide +kernel
theorem dX9_knowing_32 : decode cX9_knowing 32 = .ok (.ifCond .eq 7, 3) := by decide +kernel
theorem dX9_knowing_35 : decode cX9_knowing 35 = .ok (.iconst 1, 1) := by decide +kernel
theorem dX9_knowing_36 : decode cX9_knowing 36 = .ok (.goto 4, 3) := by decide +kernel
theorem dX9_knowing_39 : decode cX9_knowing 39 = .ok (.iconst 0, 1) := by decide +kernel
theorem dX9_knowing_40 : decode cX9_knowing 40 = .ok (.iadd, 1) := by decide +kernel
theorem dX9_knowing_41 : decode cX9_knowing 41 = .ok (.istore_n 3, 1) := by decide +kernel
theorem dX9_knowing_42 : decode cX9_knowing 42 = .ok (.iinc 4 1, 3) := by decide +kernel
theorem dX9_knowing_45 : decode cX9_knowing 45 = .ok (.goto (-40), 3) := by decide +kernel
theorem dX9_knowing_48 : decode cX9_knowing 48 = .ok (.iload_n 3, 1) := by decide +kernel
theorem dX9_knowing_49 : decode cX9_knowing 49 = .ok (.ireturn, 1) := by decide +kernel
theorem dX9_fameBy_0 : decode cX9_fameBy 0 = .ok (.aload_n 0, 1) := by decide +kernel
theorem dX9_fameBy_1 : decode cX9_fameBy 1 = .ok (.iload_n 1, 1) := by decide +kernel
theorem dX9_fameBy_2 : decode cX9_fameBy 2 = .ok (.iconst 0, 1) := by decide +kernel
theorem dX9_fameBy_3 : decode cX9_fameBy 3 = .ok (.invokestatic 52, 3) := by decide +kernel
theorem dX9_fameBy_6 : decode cX9_fameBy 6 = .ok (.iaload, 1) := by decide +kernel
theorem dX9_fameBy_7 : decode cX9_fameBy 7 = .ok (.tableswitch 67 1 5 #[33, 44, 47, 49, 57], 33) := by decide +kernel
theorem dX9_fameBy_40 : decode cX9_fameBy 40 = .ok (.aload_n 0, 1) := by decide +kernel
theorem dX9_fameBy_41 : decode cX9_fameBy 41 = .ok (.iload_n 1, 1) := by decide +kernel
theorem dX9_fameBy_42 : decode cX9_fameBy 42 = .ok (.iconst 1, 1) := by decide +kernel
theorem dX9_fameBy_43 : decode cX9_fameBy 43 = .ok (.invokestatic 52, 3) := by decide +kernel
theorem dX9_fameBy_46 : decode cX9_fameBy 46 = .ok (.iaload, 1) := by decide +kernel
theorem dX9_fameBy_47 : decode cX9_fameBy 47 = .ok (.iconst 3, 1) := by decide +kernel
theorem dX9_fameBy_48 : decode cX9_fameBy 48 = .ok (.idiv, 1) := by decide +kernel
theorem dX9_fameBy_49 : decode cX9_fameBy 49 = .ok (.ineg, 1) := by decide +kernel
theorem dX9_fameBy_50 : decode cX9_fameBy 50 = .ok (.ireturn, 1) := by decide +kernel
theorem dX9_fameBy_51 : decode cX9_fameBy 51 = .ok (.bipush (-2), 2) := by decide +kernel
theorem dX9_fameBy_53 : decode cX9_fameBy 53 = .ok (.ireturn, 1) := by decide +kernel
theorem dX9_fameBy_54 : decode cX9_fameBy 54 = .ok (.iconst 0, 1) := by decide +kernel
theorem dX9_fameBy_55 : decode cX9_fameBy 55 = .ok (.ireturn, 1) := by decide +kernel
theorem dX9_fameBy_56 : decode cX9_fameBy 56 = .ok (.aload_n 0, 1) := by decide +kernel
theorem dX9_fameBy_57 : decode cX9_fameBy 57 = .ok (.iload_n 2, 1) := by decide +kernel
theorem dX9_fameBy_58 : decode cX9_fameBy 58 = .ok (.bipush (-9), 2) := by decide +kernel
theorem dX9_fameBy_60 : decode cX9_fameBy 60 = .ok (.invokestatic 60, 3) := by decide +kernel
theorem dX9_fameBy_63 : decode cX9_fameBy 63 = .ok (.ireturn, 1) := by decide +kernel
theorem dX9_fameBy_64 : decode cX9_fameBy 64 = .ok (.aload_n 0, 1) := by decide +kernel
theorem dX9_fameBy_65 : decode cX9_fameBy 65 = .ok (.iload_n 2, 1) := by decide +kernel
theorem dX9_fameBy_66 : decode cX9_fameBy 66 = .ok (.bipush (-9), 2) := by decide +kernel
theorem dX9_fameBy_68 : decode cX9_fameBy 68 = .ok (.invokestatic 60, 3) := by decide +kernel
theorem dX9_fameBy_71 : decode cX9_fameBy 71 = .ok (.iconst 2, 1) := by decide +kernel
theorem dX9_fameBy_72 : decode cX9_fameBy 72 = .ok (.isub, 1) := by decide +kernel
theorem dX9_fameBy_73 : decode cX9_fameBy 73 = .ok (.ireturn, 1) := by decide +kernel
theorem dX9_fameBy_74 : decode cX9_fameBy 74 = .ok (.iconst 1, 1) := by decide +kernel
theorem dX9_fameBy_75 : decode cX9_fameBy 75 = .ok (.ireturn, 1) := by decide +kernel
theorem dX9_scarsBy_0 : decode cX9_scarsBy 0 = .ok (.aload_n 0, 1) := by decide +kernel
theorem dX9_scarsBy_1 : decode cX9_scarsBy 1 = .ok (.iload_n 1, 1) := by decide +kernel
theorem dX9_scarsBy_2 : decode cX9_scarsBy 2 = .ok (.iconst 0, 1) := by decide +kernel
theorem dX9_scarsBy_3 : decode cX9_scarsBy 3 = .ok (.invokestatic 52, 3) := by decide +kernel
theorem dX9_scarsBy_6 : decode cX9_scarsBy 6 = .ok (.iaload, 1) := by decide +kernel
theorem dX9_scarsBy_7 : decode cX9_scarsBy 7 = .ok (.istore_n 2, 1) := by decide +kernel
theorem dX9_scarsBy_8 : decode cX9_scarsBy 8 = .ok (.iload_n 2, 1) := by decide +kernel
theorem dX9_scarsBy_9 : decode cX9_scarsBy 9 = .ok (.iconst 2, 1) := by decide +kernel
theorem dX9_scarsBy_10 : decode cX9_scarsBy 10 = .ok (.if_icmp .eq 24, 3) := by decide +kernel
theorem dX9_scarsBy_13 : decode cX9_scarsBy 13 = .ok (.iload_n 2, 1) := by decide +kernel
theorem dX9_scarsBy_14 : decode cX9_scarsBy 14 = .ok (.iconst 4, 1) := by decide +kernel
theorem dX9_scarsBy_15 : decode cX9_scarsBy 15 = .ok (.if_icmp .eq 8, 3) := by decide +kernel
theorem dX9_scarsBy_18 : decode cX9_scarsBy 18 = .ok (.iload_n 2, 1) := by decide +kernel
theorem dX9_scarsBy_19 : decode cX9_scarsBy 19 = .ok (.iconst 5, 1) := by decide +kernel
theorem dX9_scarsBy_20 : decode cX9_scarsBy 20 = .ok (.if_icmp .ne 18, 3) := by decide +kernel
theorem dX9_scarsBy_23 : decode cX9_scarsBy 23 = .ok (.aload_n 0, 1) := by decide +kernel
theorem dX9_scarsBy_24 : decode cX9_scarsBy 24 = .ok (.iload_n 1, 1) := by decide +kernel
theorem dX9_scarsBy_25 : decode cX9_scarsBy 25 = .ok (.iconst 1, 1) := by decide +kernel
theorem dX9_scarsBy_26 : decode cX9_scarsBy 26 = .ok (.invokestatic 52, 3) := by decide +kernel
theorem dX9_scarsBy_29 : decode cX9_scarsBy 29 = .ok (.iaload, 1) := by decide +kernel
theorem dX9_scarsBy_30 : decode cX9_scarsBy 30 = .ok (.iconst 5, 1) := by decide +kernel
theorem dX9_scarsBy_31 : decode cX9_scarsBy 31 = .ok (.if_icmp .le 7, 3) := by decide +kernel
theorem dX9_scarsBy_34 : decode cX9_scarsBy 34 = .ok (.iconst 1, 1) := by decide +kernel
theorem dX9_scarsBy_35 : decode cX9_scarsBy 35 = .ok (.goto 4, 3) := by decide +kernel
theorem dX9_scarsBy_38 : decode cX9_scarsBy 38 = .ok (.iconst 0, 1) := by decide +kernel
theorem dX9_scarsBy_39 : decode cX9_scarsBy 39 = .ok (.ireturn, 1) := by decide +kernel
theorem dX9_wearsOwn_0 : decode cX9_wearsOwn 0 = .ok (.aload_n 0, 1) := by decide +kernel
theorem dX9_wearsOwn_1 : decode cX9_wearsOwn 1 = .ok (.iload_n 1, 1) := by decide +kernel
theorem dX9_wearsOwn_2 : decode cX9_wearsOwn 2 = .ok (.iconst 3, 1) := by decide +kernel
theorem dX9_wearsOwn_3 : decode cX9_wearsOwn 3 = .ok (.invokestatic 52, 3) := by decide +kernel
theorem dX9_wearsOwn_6 : decode cX9_wearsOwn 6 = .ok (.iaload, 1) := by decide +kernel
theorem dX9_wearsOwn_7 : decode cX9_wearsOwn 7 = .ok (.iload_n 1, 1) := by decide +kernel
theorem dX9_wearsOwn_8 : decode cX9_wearsOwn 8 = .ok (.if_icmp .ne 7, 3) := by decide +kernel
theorem dX9_wearsOwn_11 : decode cX9_wearsOwn 11 = .ok (.iconst 1, 1) := by decide +kernel
theorem dX9_wearsOwn_12 : decode cX9_wearsOwn 12 = .ok (.goto 4, 3) := by decide +kernel
theorem dX9_wearsOwn_15 : decode cX9_wearsOwn 15 = .ok (.iconst 0, 1) := by decide +kernel
theorem dX9_wearsOwn_16 : decode cX9_wearsOwn 16 = .ok (.ireturn, 1) := by decide +kernel
theorem dX9_canLend_0 : decode cX9_canLend 0 = .ok (.iload_n 1, 1) := by decide +kernel
theorem dX9_canLend_1 : decode cX9_canLend 1 = .ok (.iload_n 2, 1) := by decide +kernel
theorem dX9_canLend_2 : decode cX9_canLend 2 = .ok (.if_icmp .eq 23, 3) := by decide +kernel
theorem dX9_canLend_5 : decode cX9_canLend 5 = .ok (.aload_n 0, 1) := by decide +kernel
theorem dX9_canLend_6 : decode cX9_canLend 6 = .ok (.iload_n 1, 1) := by decide +kernel
theorem dX9_canLend_7 : decode cX9_canLend 7 = .ok (.invokestatic 64, 3) := by decide +kernel
theorem dX9_canLend_10 : decode cX9_canLend 10 = .ok (.ifCond .eq 15, 3) := by decide +kernel
theorem dX9_canLend_13 : decode cX9_canLend 13 = .ok (.aload_n 0, 1) := by decide +kernel
theorem dX9_canLend_14 : decode cX9_canLend 14 = .ok (.iload_n 2, 1) := by decide +kernel
theorem dX9_canLend_15 : decode cX9_canLend 15 = .ok (.invokestatic 64, 3) := by decide +kernel
theorem dX9_canLend_18 : decode cX9_canLend 18 = .ok (.ifCond .eq 7, 3) := by decide +kernel
theorem dX9_canLend_21 : decode cX9_canLend 21 = .ok (.iconst 1, 1) := by decide +kernel
theorem dX9_canLend_22 : decode cX9_canLend 22 = .ok (.goto 4, 3) := by decide +kernel
theorem dX9_canLend_25 : decode cX9_canLend 25 = .ok (.iconst 0, 1) := by decide +kernel
theorem dX9_canLend_26 : decode cX9_canLend 26 = .ok (.ireturn, 1) := by decide +kernel
theorem dX9_lendsIn_0 : decode cX9_lendsIn 0 = .ok (.aload_n 0, 1) := by decide +kernel
theorem dX9_lendsIn_1 : decode cX9_lendsIn 1 = .ok (.iload_n 1, 1) := by decide +kernel
theorem dX9_lendsIn_2 : decode cX9_lendsIn 2 = .ok (.iconst 3, 1) := by decide +kernel
theorem dX9_lendsIn_3 : decode cX9_lendsIn 3 = .ok (.invokestatic 52, 3) := by decide +kernel
theorem dX9_lendsIn_6 : decode cX9_lendsIn 6 = .ok (.bipush 9, 2) := by decide +kernel
theorem dX9_lendsIn_8 : decode cX9_lendsIn 8 = .ok (.iastore, 1) := by decide +kernel
theorem dX9_lendsIn_9 : decode cX9_lendsIn 9 = .ok (.aload_n 0, 1) := by decide +kernel
theorem dX9_lendsIn_10 : decode cX9_lendsIn 10 = .ok (.iload_n 2, 1) := by decide +kernel
theorem dX9_lendsIn_11 : decode cX9_lendsIn 11 = .ok (.iconst 3, 1) := by decide +kernel
theorem dX9_lendsIn_12 : decode cX9_lendsIn 12 = .ok (.invokestatic 52, 3) := by decide +kernel
theorem dX9_lendsIn_15 : decode cX9_lendsIn 15 = .ok (.iload_n 1, 1) := by decide +kernel
theorem dX9_lendsIn_16 : decode cX9_lendsIn 16 = .ok (.iastore, 1) := by decide +kernel
theorem dX9_lendsIn_17 : decode cX9_lendsIn 17 = .ok (.aload_n 0, 1) := by decide +kernel
theorem dX9_lendsIn_18 : decode cX9_lendsIn 18 = .ok (.iload_n 1, 1) := by decide +kernel
theorem dX9_lendsIn_19 : decode cX9_lendsIn 19 = .ok (.bipush 6, 2) := by decide +kernel
theorem dX9_lendsIn_21 : decode cX9_lendsIn 21 = .ok (.invokestatic 52, 3) := by decide +kernel
theorem dX9_lendsIn_24 : decode cX9_lendsIn 24 = .ok (.iconst 1, 1) := by decide +kernel
theorem dX9_lendsIn_25 : decode cX9_lendsIn 25 = .ok (.iastore, 1) := by decide +kernel
theorem dX9_lendsIn_26 : decode cX9_lendsIn 26 = .ok (.return_, 1) := by decide +kernel
theorem dX9_wearerOf_0 : decode cX9_wearerOf 0 = .ok (.iconst 0, 1) := by decide +kernel
theorem dX9_wearerOf_1 : decode cX9_wearerOf 1 = .ok (.istore_n 2, 1) := by decide +kernel
theorem dX9_wearerOf_2 : decode cX9_wearerOf 2 = .ok (.iload_n 2, 1) := by decide +kernel
theorem dX9_wearerOf_3 : decode cX9_wearerOf 3 = .ok (.aload_n 0, 1) := by decide +kernel
theorem dX9_wearerOf_4 : decode cX9_wearerOf 4 = .ok (.iconst 0, 1) := by decide +kernel
theorem dX9_wearerOf_5 : decode cX9_wearerOf 5 = .ok (.iaload, 1) := by decide +kernel
theorem dX9_wearerOf_6 : decode cX9_wearerOf 6 = .ok (.if_icmp .ge 22, 3) := by decide +kernel
theorem dX9_wearerOf_9 : decode cX9_wearerOf 9 = .ok (.aload_n 0, 1) := by decide +kernel
theorem dX9_wearerOf_10 : decode cX9_wearerOf 10 = .ok (.iload_n 2, 1) := by decide +kernel
theorem dX9_wearerOf_11 : decode cX9_wearerOf 11 = .ok (.iconst 3, 1) := by decide +kernel
theorem dX9_wearerOf_12 : decode cX9_wearerOf 12 = .ok (.invokestatic 52, 3) := by decide +kernel
theorem dX9_wearerOf_15 : decode cX9_wearerOf 15 = .ok (.iaload, 1) := by decide +kernel
theorem dX9_wearerOf_16 : decode cX9_wearerOf 16 = .ok (.iload_n 1, 1) := by decide +kernel
theorem dX9_wearerOf_17 : decode cX9_wearerOf 17 = .ok (.if_icmp .ne 5, 3) := by decide +kernel
theorem dX9_wearerOf_20 : decode cX9_wearerOf 20 = .ok (.iload_n 2, 1) := by decide +kernel
theorem dX9_wearerOf_21 : decode cX9_wearerOf 21 = .ok (.ireturn, 1) := by decide +kernel
theorem dX9_wearerOf_22 : decode cX9_wearerOf 22 = .ok (.iinc 2 1, 3) := by decide +kernel
theorem dX9_wearerOf_25 : decode cX9_wearerOf 25 = .ok (.goto (-23), 3) := by decide +kernel
theorem dX9_wearerOf_28 : decode cX9_wearerOf 28 = .ok (.bipush (-9), 2) := by decide +kernel
theorem dX9_wearerOf_30 : decode cX9_wearerOf 30 = .ok (.ireturn, 1) := by decide +kernel
theorem dX9_comesBack_0 : decode cX9_comesBack 0 = .ok (.aload_n 0, 1) := by decide +kernel
theorem dX9_comesBack_1 : decode cX9_comesBack 1 = .ok (.iload_n 1, 1) := by decide +kernel
theorem dX9_comesBack_2 : decode cX9_comesBack 2 = .ok (.invokestatic 68, 3) := by decide +kernel
theorem dX9_comesBack_5 : decode cX9_comesBack 5 = .ok (.istore_n 2, 1) := by decide +kernel
theorem dX9_comesBack_6 : decode cX9_comesBack 6 = .ok (.aload_n 0, 1) := by decide +kernel
theorem dX9_comesBack_7 : decode cX9_comesBack 7 = .ok (.iload_n 2, 1) := by decide +kernel
theorem dX9_comesBack_8 : decode cX9_comesBack 8 = .ok (.iconst 3, 1) := by decide +kernel
theorem dX9_comesBack_9 : decode cX9_comesBack 9 = .ok (.invokestatic 52, 3) := by decide +kernel
theorem dX9_comesBack_12 : decode cX9_comesBack 12 = .ok (.iload_n 2, 1) := by decide +kernel
theorem dX9_comesBack_13 : decode cX9_comesBack 13 = .ok (.iastore, 1) := by decide +kernel
theorem dX9_comesBack_14 : decode cX9_comesBack 14 = .ok (.aload_n 0, 1) := by decide +kernel
theorem dX9_comesBack_15 : decode cX9_comesBack 15 = .ok (.iload_n 1, 1) := by decide +kernel
theorem dX9_comesBack_16 : decode cX9_comesBack 16 = .ok (.iconst 3, 1) := by decide +kernel
theorem dX9_comesBack_17 : decode cX9_comesBack 17 = .ok (.invokestatic 52, 3) := by decide +kernel
theorem dX9_comesBack_20 : decode cX9_comesBack 20 = .ok (.iload_n 1, 1) := by decide +kernel
theorem dX9_comesBack_21 : decode cX9_comesBack 21 = .ok (.iastore, 1) := by decide +kernel
theorem dX9_comesBack_22 : decode cX9_comesBack 22 = .ok (.aload_n 0, 1) := by decide +kernel
theorem dX9_comesBack_23 : decode cX9_comesBack 23 = .ok (.iload_n 1, 1) := by decide +kernel
theorem dX9_comesBack_24 : decode cX9_comesBack 24 = .ok (.bipush 6, 2) := by decide +kernel
theorem dX9_comesBack_26 : decode cX9_comesBack 26 = .ok (.invokestatic 52, 3) := by decide +kernel
theorem dX9_comesBack_29 : decode cX9_comesBack 29 = .ok (.iconst 0, 1) := by decide +kernel
theorem dX9_comesBack_30 : decode cX9_comesBack 30 = .ok (.iastore, 1) := by decide +kernel
theorem dX9_comesBack_31 : decode cX9_comesBack 31 = .ok (.iload_n 2, 1) := by decide +kernel
theorem dX9_comesBack_32 : decode cX9_comesBack 32 = .ok (.ireturn, 1) := by decide +kernel
theorem dX9_month_0 : decode cX9_month 0 = .ok (.aload_n 0, 1) := by decide +kernel
theorem dX9_month_1 : decode cX9_month 1 = .ok (.iconst 1, 1) := by decide +kernel
theorem dX9_month_2 : decode cX9_month 2 = .ok (.dup2, 1) := by decide +kernel
theorem dX9_month_3 : decode cX9_month 3 = .ok (.iaload, 1) := by decide +kernel
theorem dX9_month_4 : decode cX9_month 4 = .ok (.iconst 1, 1) := by decide +kernel
theorem dX9_month_5 : decode cX9_month 5 = .ok (.iadd, 1) := by decide +kernel
theorem dX9_month_6 : decode cX9_month 6 = .ok (.iastore, 1) := by decide +kernel
theorem dX9_month_7 : decode cX9_month 7 = .ok (.iconst 0, 1) := by decide +kernel
theorem dX9_month_8 : decode cX9_month 8 = .ok (.istore_n 1, 1) := by decide +kernel
theorem dX9_month_9 : decode cX9_month 9 = .ok (.iload_n 1, 1) := by decide +kernel
theorem dX9_month_10 : decode cX9_month 10 = .ok (.aload_n 0, 1) := by decide +kernel
theorem dX9_month_11 : decode cX9_month 11 = .ok (.iconst 0, 1) := by decide +kernel
theorem dX9_month_12 : decode cX9_month 12 = .ok (.iaload, 1) := by decide +kernel
theorem dX9_month_13 : decode cX9_month 13 = .ok (.if_icmp .ge 73, 3) := by decide +kernel
theorem dX9_month_16 : decode cX9_month 16 = .ok (.aload_n 0, 1) := by decide +kernel
theorem dX9_month_17 : decode cX9_month 17 = .ok (.iload_n 1, 1) := by decide +kernel
theorem dX9_month_18 : decode cX9_month 18 = .ok (.iconst 3, 1) := by decide +kernel
theorem dX9_month_19 : decode cX9_month 19 = .ok (.invokestatic 52, 3) := by decide +kernel
theorem dX9_month_22 : decode cX9_month 22 = .ok (.iaload, 1) := by decide +kernel
theorem dX9_month_23 : decode cX9_month 23 = .ok (.istore_n 2, 1) := by decide +kernel
theorem dX9_month_24 : decode cX9_month 24 = .ok (.iload_n 2, 1) := by decide +kernel
theorem dX9_month_25 : decode cX9_month 25 = .ok (.bipush 9, 2) := by decide +kernel
theorem dX9_month_27 : decode cX9_month 27 = .ok (.if_icmp .ne 6, 3) := by decide +kernel
theorem dX9_month_30 : decode cX9_month 30 = .ok (.goto 50, 3) := by decide +kernel
theorem dX9_month_33 : decode cX9_month 33 = .ok (.aload_n 0, 1) := by decide +kernel
theorem dX9_month_34 : decode cX9_month 34 = .ok (.iload_n 2, 1) := by decide +kernel
theorem dX9_month_35 : decode cX9_month 35 = .ok (.iconst 4, 1) := by decide +kernel
theorem dX9_month_36 : decode cX9_month 36 = .ok (.invokestatic 52, 3) := by decide +kernel
theorem dX9_month_39 : decode cX9_month 39 = .ok (.aload_n 0, 1) := by decide +kernel
theorem dX9_month_40 : decode cX9_month 40 = .ok (.iload_n 2, 1) := by decide +kernel
theorem dX9_month_41 : decode cX9_month 41 = .ok (.iconst 4, 1) := by decide +kernel
theorem dX9_month_42 : decode cX9_month 42 = .ok (.invokestatic 52, 3) := by decide +kernel
theorem dX9_month_45 : decode cX9_month 45 = .ok (.iaload, 1) := by decide +kernel
theorem dX9_month_46 : decode cX9_month 46 = .ok (.aload_n 0, 1) := by decide +kernel
theorem dX9_month_47 : decode cX9_month 47 = .ok (.iload_n 1, 1) := by decide +kernel
theorem dX9_month_48 : decode cX9_month 48 = .ok (.iload_n 2, 1) := by decide +kernel
theorem dX9_month_49 : decode cX9_month 49 = .ok (.invokestatic 72, 3) := by decide +kernel
theorem dX9_month_52 : decode cX9_month 52 = .ok (.iadd, 1) := by decide +kernel
theorem dX9_month_53 : decode cX9_month 53 = .ok (.invokestatic 75, 3) := by decide +kernel
theorem dX9_month_56 : decode cX9_month 56 = .ok (.iastore, 1) := by decide +kernel
theorem dX9_month_57 : decode cX9_month 57 = .ok (.aload_n 0, 1) := by decide +kernel
theorem dX9_month_58 : decode cX9_month 58 = .ok (.iload_n 2, 1) := by decide +kernel
theorem dX9_month_59 : decode cX9_month 59 = .ok (.iconst 5, 1) := by decide +kernel
theorem dX9_month_60 : decode cX9_month 60 = .ok (.invokestatic 52, 3) := by decide +kernel
theorem dX9_month_63 : decode cX9_month 63 = .ok (.aload_n 0, 1) := by decide +kernel
theorem dX9_month_64 : decode cX9_month 64 = .ok (.iload_n 2, 1) := by decide +kernel
theorem dX9_month_65 : decode cX9_month 65 = .ok (.iconst 5, 1) := by decide +kernel
theorem dX9_month_66 : decode cX9_month 66 = .ok (.invokestatic 52, 3) := by decide +kernel
theorem dX9_month_69 : decode cX9_month 69 = .ok (.iaload, 1) := by decide +kernel
theorem dX9_month_70 : decode cX9_month 70 = .ok (.aload_n 0, 1) := by decide +kernel
theorem dX9_month_71 : decode cX9_month 71 = .ok (.iload_n 1, 1) := by decide +kernel
theorem dX9_month_72 : decode cX9_month 72 = .ok (.invokestatic 78, 3) := by decide +kernel
theorem dX9_month_75 : decode cX9_month 75 = .ok (.iadd, 1) := by decide +kernel
theorem dX9_month_76 : decode cX9_month 76 = .ok (.invokestatic 75, 3) := by decide +kernel
theorem dX9_month_79 : decode cX9_month 79 = .ok (.iastore, 1) := by decide +kernel
theorem dX9_month_80 : decode cX9_month 80 = .ok (.iinc 1 1, 3) := by decide +kernel
theorem dX9_month_83 : decode cX9_month 83 = .ok (.goto (-74), 3) := by decide +kernel
theorem dX9_month_86 : decode cX9_month 86 = .ok (.iconst 0, 1) := by decide +kernel
theorem dX9_month_87 : decode cX9_month 87 = .ok (.istore_n 1, 1) := by decide +kernel
theorem dX9_month_88 : decode cX9_month 88 = .ok (.iload_n 1, 1) := by decide +kernel
theorem dX9_month_89 : decode cX9_month 89 = .ok (.aload_n 0, 1) := by decide +kernel
theorem dX9_month_90 : decode cX9_month 90 = .ok (.iconst 0, 1) := by decide +kernel
theorem dX9_month_91 : decode cX9_month 91 = .ok (.iaload, 1) := by decide +kernel
theorem dX9_month_92 : decode cX9_month 92 = .ok (.if_icmp .ge 53, 3) := by decide +kernel
theorem dX9_month_95 : decode cX9_month 95 = .ok (.aload_n 0, 1) := by decide +kernel
theorem dX9_month_96 : decode cX9_month 96 = .ok (.iload_n 1, 1) := by decide +kernel
theorem dX9_month_97 : decode cX9_month 97 = .ok (.bipush 6, 2) := by decide +kernel
theorem dX9_month_99 : decode cX9_month 99 = .ok (.invokestatic 52, 3) := by decide +kernel
theorem dX9_month_102 : decode cX9_month 102 = .ok (.iaload, 1) := by decide +kernel
theorem dX9_month_103 : decode cX9_month 103 = .ok (.istore_n 2, 1) := by decide +kernel
theorem dX9_month_104 : decode cX9_month 104 = .ok (.iload_n 2, 1) := by decide +kernel
theorem dX9_month_105 : decode cX9_month 105 = .ok (.ifCond .ne 6, 3) := by decide +kernel
theorem dX9_month_108 : decode cX9_month 108 = .ok (.goto 31, 3) := by decide +kernel
theorem dX9_month_111 : decode cX9_month 111 = .ok (.aload_n 0, 1) := by decide +kernel
theorem dX9_month_112 : decode cX9_month 112 = .ok (.iload_n 1, 1) := by decide +kernel
theorem dX9_month_113 : decode cX9_month 113 = .ok (.bipush 6, 2) := by decide +kernel
theorem dX9_month_115 : decode cX9_month 115 = .ok (.invokestatic 52, 3) := by decide +kernel
theorem dX9_month_118 : decode cX9_month 118 = .ok (.iload_n 2, 1) := by decide +kernel
theorem dX9_month_119 : decode cX9_month 119 = .ok (.iconst 1, 1) := by decide +kernel
theorem dX9_month_120 : decode cX9_month 120 = .ok (.iadd, 1) := by decide +kernel
theorem dX9_month_121 : decode cX9_month 121 = .ok (.iastore, 1) := by decide +kernel
theorem dX9_month_122 : decode cX9_month 122 = .ok (.iload_n 2, 1) := by decide +kernel
theorem dX9_month_123 : decode cX9_month 123 = .ok (.bipush 12, 2) := by decide +kernel
theorem dX9_month_125 : decode cX9_month 125 = .ok (.if_icmp .ne 11, 3) := by decide +kernel
theorem dX9_month_128 : decode cX9_month 128 = .ok (.aload_n 0, 1) := by decide +kernel
theorem dX9_month_129 : decode cX9_month 129 = .ok (.iload_n 1, 1) := by decide +kernel
theorem dX9_month_130 : decode cX9_month 130 = .ok (.invokestatic 81, 3) := by decide +kernel
theorem dX9_month_133 : decode cX9_month 133 = .ok (.goto 5, 3) := by decide +kernel
theorem dX9_month_136 : decode cX9_month 136 = .ok (.bipush (-9), 2) := by decide +kernel
theorem dX9_month_138 : decode cX9_month 138 = .ok (.istore_n 3, 1) := by decide +kernel
theorem dX9_month_139 : decode cX9_month 139 = .ok (.iinc 1 1, 3) := by decide +kernel
theorem dX9_month_142 : decode cX9_month 142 = .ok (.goto (-54), 3) := by decide +kernel
theorem dX9_month_145 : decode cX9_month 145 = .ok (.return_, 1) := by decide +kernel
theorem dX9_monthsOn_0 : decode cX9_monthsOn 0 = .ok (.iconst 0, 1) := by decide +kernel
theorem dX9_monthsOn_1 : decode cX9_monthsOn 1 = .ok (.istore_n 2, 1) := by decide +kernel
theorem dX9_monthsOn_2 : decode cX9_monthsOn 2 = .ok (.iload_n 2, 1) := by decide +kernel
theorem dX9_monthsOn_3 : decode cX9_monthsOn 3 = .ok (.iload_n 1, 1) := by decide +kernel
theorem dX9_monthsOn_4 : decode cX9_monthsOn 4 = .ok (.if_icmp .ge 13, 3) := by decide +kernel
theorem dX9_monthsOn_7 : decode cX9_monthsOn 7 = .ok (.aload_n 0, 1) := by decide +kernel
theorem dX9_monthsOn_8 : decode cX9_monthsOn 8 = .ok (.invokestatic 84, 3) := by decide +kernel
theorem dX9_monthsOn_11 : decode cX9_monthsOn 11 = .ok (.iinc 2 1, 3) := by decide +kernel
theorem dX9_monthsOn_14 : decode cX9_monthsOn 14 = .ok (.goto (-12), 3) := by decide +kernel
theorem dX9_monthsOn_17 : decode cX9_monthsOn 17 = .ok (.return_, 1) := by decide +kernel
theorem dX9_worthIn_0 : decode cX9_worthIn 0 = .ok (.aload_n 0, 1) := by decide +kernel
theorem dX9_worthIn_1 : decode cX9_worthIn 1 = .ok (.iload_n 1, 1) := by decide +kernel
theorem dX9_worthIn_2 : decode cX9_worthIn 2 = .ok (.iconst 4, 1) := by decide +kernel
theorem dX9_worthIn_3 : decode cX9_worthIn 3 = .ok (.invokestatic 52, 3) := by decide +kernel
theorem dX9_worthIn_6 : decode cX9_worthIn 6 = .ok (.iaload, 1) := by decide +kernel
theorem dX9_worthIn_7 : decode cX9_worthIn 7 = .ok (.aload_n 0, 1) := by decide +kernel
theorem dX9_worthIn_8 : decode cX9_worthIn 8 = .ok (.iload_n 1, 1) := by decide +kernel
theorem dX9_worthIn_9 : decode cX9_worthIn 9 = .ok (.iconst 5, 1) := by decide +kernel
theorem dX9_worthIn_10 : decode cX9_worthIn 10 = .ok (.invokestatic 52, 3) := by decide +kernel
theorem dX9_worthIn_13 : decode cX9_worthIn 13 = .ok (.iaload, 1) := by decide +kernel
theorem dX9_worthIn_14 : decode cX9_worthIn 14 = .ok (.isub, 1) := by decide +kernel
theorem dX9_worthIn_15 : decode cX9_worthIn 15 = .ok (.ireturn, 1) := by decide +kernel
theorem dX9_worthAll_0 : decode cX9_worthAll 0 = .ok (.iconst 0, 1) := by decide +kernel
theorem dX9_worthAll_1 : decode cX9_worthAll 1 = .ok (.istore_n 1, 1) := by decide +kernel
theorem dX9_worthAll_2 : decode cX9_worthAll 2 = .ok (.iconst 0, 1) := by decide +kernel
theorem dX9_worthAll_3 : decode cX9_worthAll 3 = .ok (.istore_n 2, 1) := by decide +kernel
theorem dX9_worthAll_4 : decode cX9_worthAll 4 = .ok (.iload_n 2, 1) := by decide +kernel
theorem dX9_worthAll_5 : decode cX9_worthAll 5 = .ok (.aload_n 0, 1) := by decide +kernel
theorem dX9_worthAll_6 : decode cX9_worthAll 6 = .ok (.iconst 0, 1) := by decide +kernel
theorem dX9_worthAll_7 : decode cX9_worthAll 7 = .ok (.iaload, 1) := by decide +kernel
theorem dX9_worthAll_8 : decode cX9_worthAll 8 = .ok (.if_icmp .ge 17, 3) := by decide +kernel
theorem dX9_worthAll_11 : decode cX9_worthAll 11 = .ok (.iload_n 1, 1) := by decide +kernel
theorem dX9_worthAll_12 : decode cX9_worthAll 12 = .ok (.aload_n 0, 1) := by decide +kernel
theorem dX9_worthAll_13 : decode cX9_worthAll 13 = .ok (.iload_n 2, 1) := by decide +kernel
theorem dX9_worthAll_14 : decode cX9_worthAll 14 = .ok (.invokestatic 88, 3) := by decide +kernel
theorem dX9_worthAll_17 : decode cX9_worthAll 17 = .ok (.iadd, 1) := by decide +kernel
theorem dX9_worthAll_18 : decode cX9_worthAll 18 = .ok (.istore_n 1, 1) := by decide +kernel
theorem dX9_worthAll_19 : decode cX9_worthAll 19 = .ok (.iinc 2 1, 3) := by decide +kernel
theorem dX9_worthAll_22 : decode cX9_worthAll 22 = .ok (.goto (-18), 3) := by decide +kernel
theorem dX9_worthAll_25 : decode cX9_worthAll 25 = .ok (.iload_n 1, 1) := by decide +kernel
theorem dX9_worthAll_26 : decode cX9_worthAll 26 = .ok (.ireturn, 1) := by decide +kernel
theorem dX9_lentIn_0 : decode cX9_lentIn 0 = .ok (.iconst 0, 1) := by decide +kernel
theorem dX9_lentIn_1 : decode cX9_lentIn 1 = .ok (.istore_n 1, 1) := by decide +kernel
theorem dX9_lentIn_2 : decode cX9_lentIn 2 = .ok (.iconst 0, 1) := by decide +kernel
theorem dX9_lentIn_3 : decode cX9_lentIn 3 = .ok (.istore_n 2, 1) := by decide +kernel
theorem dX9_lentIn_4 : decode cX9_lentIn 4 = .ok (.iload_n 2, 1) := by decide +kernel
theorem dX9_lentIn_5 : decode cX9_lentIn 5 = .ok (.aload_n 0, 1) := by decide +kernel
theorem dX9_lentIn_6 : decode cX9_lentIn 6 = .ok (.iconst 0, 1) := by decide +kernel
theorem dX9_lentIn_7 : decode cX9_lentIn 7 = .ok (.iaload, 1) := by decide +kernel
theorem dX9_lentIn_8 : decode cX9_lentIn 8 = .ok (.if_icmp .ge 28, 3) := by decide +kernel
theorem dX9_lentIn_11 : decode cX9_lentIn 11 = .ok (.iload_n 1, 1) := by decide +kernel
theorem dX9_lentIn_12 : decode cX9_lentIn 12 = .ok (.aload_n 0, 1) := by decide +kernel
theorem dX9_lentIn_13 : decode cX9_lentIn 13 = .ok (.iload_n 2, 1) := by decide +kernel
theorem dX9_lentIn_14 : decode cX9_lentIn 14 = .ok (.bipush 6, 2) := by decide +kernel
theorem dX9_lentIn_16 : decode cX9_lentIn 16 = .ok (.invokestatic 52, 3) := by decide +kernel
theorem dX9_lentIn_19 : decode cX9_lentIn 19 = .ok (.iaload, 1) := by decide +kernel
theorem dX9_lentIn_20 : decode cX9_lentIn 20 = .ok (.ifCond .le 7, 3) := by decide +kernel
theorem dX9_lentIn_23 : decode cX9_lentIn 23 = .ok (.iconst 1, 1) := by decide +kernel
theorem dX9_lentIn_24 : decode cX9_lentIn 24 = .ok (.goto 4, 3) := by decide +kernel
theorem dX9_lentIn_27 : decode cX9_lentIn 27 = .ok (.iconst 0, 1) := by decide +kernel
theorem dX9_lentIn_28 : decode cX9_lentIn 28 = .ok (.iadd, 1) := by decide +kernel
theorem dX9_lentIn_29 : decode cX9_lentIn 29 = .ok (.istore_n 1, 1) := by decide +kernel
theorem dX9_lentIn_30 : decode cX9_lentIn 30 = .ok (.iinc 2 1, 3) := by decide +kernel
theorem dX9_lentIn_33 : decode cX9_lentIn 33 = .ok (.goto (-29), 3) := by decide +kernel
theorem dX9_lentIn_36 : decode cX9_lentIn 36 = .ok (.iload_n 1, 1) := by decide +kernel
theorem dX9_lentIn_37 : decode cX9_lentIn 37 = .ok (.ireturn, 1) := by decide +kernel
theorem dX9_letter_0 : decode cX9_letter 0 = .ok (.iload_n 1, 1) := by decide +kernel
theorem dX9_letter_1 : decode cX9_letter 1 = .ok (.ifCond .ge 10, 3) := by decide +kernel
theorem dX9_letter_4 : decode cX9_letter 4 = .ok (.aload_n 0, 1) := by decide +kernel
theorem dX9_letter_5 : decode cX9_letter 5 = .ok (.bipush (-4), 2) := by decide +kernel
theorem dX9_letter_7 : decode cX9_letter 7 = .ok (.invokevirtual 38, 3) := by decide +kernel
theorem dX9_letter_10 : decode cX9_letter 10 = .ok (.ireturn, 1) := by decide +kernel
theorem dX9_letter_11 : decode cX9_letter 11 = .ok (.iload_n 1, 1) := by decide +kernel
theorem dX9_letter_12 : decode cX9_letter 12 = .ok (.sipush 255, 3) := by decide +kernel
theorem dX9_letter_15 : decode cX9_letter 15 = .ok (.if_icmp .gt 12, 3) := by decide +kernel
theorem dX9_letter_18 : decode cX9_letter 18 = .ok (.aload_n 0, 1) := by decide +kernel
theorem dX9_letter_19 : decode cX9_letter 19 = .ok (.getfield 91, 3) := by decide +kernel
theorem dX9_letter_22 : decode cX9_letter 22 = .ok (.bipush 96, 2) := by decide +kernel
theorem dX9_letter_24 : decode cX9_letter 24 = .ok (.if_icmp .ne 10, 3) := by decide +kernel
theorem dX9_letter_27 : decode cX9_letter 27 = .ok (.aload_n 0, 1) := by decide +kernel
theorem dX9_letter_28 : decode cX9_letter 28 = .ok (.bipush (-6), 2) := by decide +kernel
theorem dX9_letter_30 : decode cX9_letter 30 = .ok (.invokevirtual 38, 3) := by decide +kernel
theorem dX9_letter_33 : decode cX9_letter 33 = .ok (.ireturn, 1) := by decide +kernel
theorem dX9_letter_34 : decode cX9_letter 34 = .ok (.aload_n 0, 1) := by decide +kernel
theorem dX9_letter_35 : decode cX9_letter 35 = .ok (.getfield 25, 3) := by decide +kernel
theorem dX9_letter_38 : decode cX9_letter 38 = .ok (.aload_n 0, 1) := by decide +kernel
theorem dX9_letter_39 : decode cX9_letter 39 = .ok (.getfield 91, 3) := by decide +kernel
theorem dX9_letter_42 : decode cX9_letter 42 = .ok (.iload_n 1, 1) := by decide +kernel
theorem dX9_letter_43 : decode cX9_letter 43 = .ok (.iastore, 1) := by decide +kernel
theorem dX9_letter_44 : decode cX9_letter 44 = .ok (.aload_n 0, 1) := by decide +kernel
theorem dX9_letter_45 : decode cX9_letter 45 = .ok (.dup, 1) := by decide +kernel
theorem dX9_letter_46 : decode cX9_letter 46 = .ok (.getfield 91, 3) := by decide +kernel
theorem dX9_letter_49 : decode cX9_letter 49 = .ok (.iconst 1, 1) := by decide +kernel
theorem dX9_letter_50 : decode cX9_letter 50 = .ok (.iadd, 1) := by decide +kernel
theorem dX9_letter_51 : decode cX9_letter 51 = .ok (.putfield 91, 3) := by decide +kernel
theorem dX9_letter_54 : decode cX9_letter 54 = .ok (.aload_n 0, 1) := by decide +kernel
theorem dX9_letter_55 : decode cX9_letter 55 = .ok (.getfield 91, 3) := by decide +kernel
theorem dX9_letter_58 : decode cX9_letter 58 = .ok (.ireturn, 1) := by decide +kernel
theorem dX9_here_0 : decode cX9_here 0 = .ok (.aload_n 0, 1) := by decide +kernel
theorem dX9_here_1 : decode cX9_here 1 = .ok (.getfield 95, 3) := by decide +kernel
theorem dX9_here_4 : decode cX9_here 4 = .ok (.aload_n 0, 1) := by decide +kernel
theorem dX9_here_5 : decode cX9_here 5 = .ok (.getfield 91, 3) := by decide +kernel
theorem dX9_here_8 : decode cX9_here 8 = .ok (.if_icmp .ge 15, 3) := by decide +kernel
theorem dX9_here_11 : decode cX9_here 11 = .ok (.aload_n 0, 1) := by decide +kernel
theorem dX9_here_12 : decode cX9_here 12 = .ok (.getfield 25, 3) := by decide +kernel
theorem dX9_here_15 : decode cX9_here 15 = .ok (.aload_n 0, 1) := by decide +kernel
theorem dX9_here_16 : decode cX9_here 16 = .ok (.getfield 95, 3) := by decide +kernel
theorem dX9_here_19 : decode cX9_here 19 = .ok (.iaload, 1) := by decide +kernel
theorem dX9_here_20 : decode cX9_here 20 = .ok (.goto 4, 3) := by decide +kernel
theorem dX9_here_23 : decode cX9_here 23 = .ok (.iconst (-1), 1) := by decide +kernel
theorem dX9_here_24 : decode cX9_here 24 = .ok (.ireturn, 1) := by decide +kernel
theorem dX9_readsNumber_0 : decode cX9_readsNumber 0 = .ok (.aload_n 0, 1) := by decide +kernel
theorem dX9_readsNumber_1 : decode cX9_readsNumber 1 = .ok (.getfield 34, 3) := by decide +kernel
theorem dX9_readsNumber_4 : decode cX9_readsNumber 4 = .ok (.iload_n 1, 1) := by decide +kernel
theorem dX9_readsNumber_5 : decode cX9_readsNumber 5 = .ok (.iconst 0, 1) := by decide +kernel
theorem dX9_readsNumber_6 : decode cX9_readsNumber 6 = .ok (.iastore, 1) := by decide +kernel
theorem dX9_readsNumber_7 : decode cX9_readsNumber 7 = .ok (.iconst 0, 1) := by decide +kernel
theorem dX9_readsNumber_8 : decode cX9_readsNumber 8 = .ok (.istore_n 3, 1) := by decide +kernel
theorem dX9_readsNumber_9 : decode cX9_readsNumber 9 = .ok (.iload_n 3, 1) := by decide +kernel
theorem dX9_readsNumber_10 : decode cX9_readsNumber 10 = .ok (.iload_n 2, 1) := by decide +kernel
theorem dX9_readsNumber_11 : decode cX9_readsNumber 11 = .ok (.if_icmp .ge 58, 3) := by decide +kernel
theorem dX9_readsNumber_14 : decode cX9_readsNumber 14 = .ok (.aload_n 0, 1) := by decide +kernel
theorem dX9_readsNumber_15 : decode cX9_readsNumber 15 = .ok (.invokevirtual 98, 3) := by decide +kernel
theorem dX9_readsNumber_18 : decode cX9_readsNumber 18 = .ok (.bipush 48, 2) := by decide +kernel
theorem dX9_readsNumber_20 : decode cX9_readsNumber 20 = .ok (.bipush 57, 2) := by decide +kernel
theorem dX9_readsNumber_22 : decode cX9_readsNumber 22 = .ok (.invokestatic 44, 3) := by decide +kernel
theorem dX9_readsNumber_25 : decode cX9_readsNumber 25 = .ok (.ifCond .ne 5, 3) := by decide +kernel
theorem dX9_readsNumber_28 : decode cX9_readsNumber 28 = .ok (.iconst 0, 1) := by decide +kernel
theorem dX9_readsNumber_29 : decode cX9_readsNumber 29 = .ok (.ireturn, 1) := by decide +kernel
theorem dX9_readsNumber_30 : decode cX9_readsNumber 30 = .ok (.aload_n 0, 1) := by decide +kernel
theorem dX9_readsNumber_31 : decode cX9_readsNumber 31 = .ok (.getfield 34, 3) := by decide +kernel
theorem dX9_readsNumber_34 : decode cX9_readsNumber 34 = .ok (.iload_n 1, 1) := by decide +kernel
theorem dX9_readsNumber_35 : decode cX9_readsNumber 35 = .ok (.bipush 10, 2) := by decide +kernel
theorem dX9_readsNumber_37 : decode cX9_readsNumber 37 = .ok (.aload_n 0, 1) := by decide +kernel
theorem dX9_readsNumber_38 : decode cX9_readsNumber 38 = .ok (.getfield 34, 3) := by decide +kernel
theorem dX9_readsNumber_41 : decode cX9_readsNumber 41 = .ok (.iload_n 1, 1) := by decide +kernel
theorem dX9_readsNumber_42 : decode cX9_readsNumber 42 = .ok (.iaload, 1) := by decide +kernel
theorem dX9_readsNumber_43 : decode cX9_readsNumber 43 = .ok (.imul, 1) := by decide +kernel
theorem dX9_readsNumber_44 : decode cX9_readsNumber 44 = .ok (.aload_n 0, 1) := by decide +kernel
theorem dX9_readsNumber_45 : decode cX9_readsNumber 45 = .ok (.invokevirtual 98, 3) := by decide +kernel
theorem dX9_readsNumber_48 : decode cX9_readsNumber 48 = .ok (.iadd, 1) := by decide +kernel
theorem dX9_readsNumber_49 : decode cX9_readsNumber 49 = .ok (.bipush 48, 2) := by decide +kernel
theorem dX9_readsNumber_51 : decode cX9_readsNumber 51 = .ok (.isub, 1) := by decide +kernel
theorem dX9_readsNumber_52 : decode cX9_readsNumber 52 = .ok (.iastore, 1) := by decide +kernel
theorem dX9_readsNumber_53 : decode cX9_readsNumber 53 = .ok (.aload_n 0, 1) := by decide +kernel
theorem dX9_readsNumber_54 : decode cX9_readsNumber 54 = .ok (.dup, 1) := by decide +kernel
theorem dX9_readsNumber_55 : decode cX9_readsNumber 55 = .ok (.getfield 95, 3) := by decide +kernel
theorem dX9_readsNumber_58 : decode cX9_readsNumber 58 = .ok (.iconst 1, 1) := by decide +kernel
theorem dX9_readsNumber_59 : decode cX9_readsNumber 59 = .ok (.iadd, 1) := by decide +kernel
theorem dX9_readsNumber_60 : decode cX9_readsNumber 60 = .ok (.putfield 95, 3) := by decide +kernel
theorem dX9_readsNumber_63 : decode cX9_readsNumber 63 = .ok (.iinc 3 1, 3) := by decide +kernel
theorem dX9_readsNumber_66 : decode cX9_readsNumber 66 = .ok (.goto (-57), 3) := by decide +kernel
theorem dX9_readsNumber_69 : decode cX9_readsNumber 69 = .ok (.iconst 1, 1) := by decide +kernel
theorem dX9_readsNumber_70 : decode cX9_readsNumber 70 = .ok (.ireturn, 1) := by decide +kernel
theorem dX9_kindBy_0 : decode cX9_kindBy 0 = .ok (.iload_n 0, 1) := by decide +kernel
theorem dX9_kindBy_1 : decode cX9_kindBy 1 = .ok (.tableswitch 87 98 112 #[77, 87, 83, 87, 87, 85, 87, 87, 87, 81, 87, 79, 87, 87, 75], 75) := by decide +kernel
theorem dX9_kindBy_76 : decode cX9_kindBy 76 = .ok (.iconst 0, 1) := by decide +kernel
theorem dX9_kindBy_77 : decode cX9_kindBy 77 = .ok (.ireturn, 1) := by decide +kernel
theorem dX9_kindBy_78 : decode cX9_kindBy 78 = .ok (.iconst 1, 1) := by decide +kernel
theorem dX9_kindBy_79 : decode cX9_kindBy 79 = .ok (.ireturn, 1) := by decide +kernel
theorem dX9_kindBy_80 : decode cX9_kindBy 80 = .ok (.iconst 2, 1) := by decide +kernel
theorem dX9_kindBy_81 : decode cX9_kindBy 81 = .ok (.ireturn, 1) := by decide +kernel
theorem dX9_kindBy_82 : decode cX9_kindBy 82 = .ok (.iconst 3, 1) := by decide +kernel
theorem dX9_kindBy_83 : decode cX9_kindBy 83 = .ok (.ireturn, 1) := by decide +kernel
theorem dX9_kindBy_84 : decode cX9_kindBy 84 = .ok (.iconst 4, 1) := by decide +kernel
theorem dX9_kindBy_85 : decode cX9_kindBy 85 = .ok (.ireturn, 1) := by decide +kernel
theorem dX9_kindBy_86 : decode cX9_kindBy 86 = .ok (.iconst 5, 1) := by decide +kernel
theorem dX9_kindBy_87 : decode cX9_kindBy 87 = .ok (.ireturn, 1) := by decide +kernel
theorem dX9_kindBy_88 : decode cX9_kindBy 88 = .ok (.bipush (-9), 2) := by decide +kernel
theorem dX9_kindBy_90 : decode cX9_kindBy 90 = .ok (.ireturn, 1) := by decide +kernel
theorem dX9_readsKind_0 : decode cX9_readsKind 0 = .ok (.aload_n 0, 1) := by decide +kernel
theorem dX9_readsKind_1 : decode cX9_readsKind 1 = .ok (.getfield 34, 3) := by decide +kernel
theorem dX9_readsKind_4 : decode cX9_readsKind 4 = .ok (.iconst 0, 1) := by decide +kernel
theorem dX9_readsKind_5 : decode cX9_readsKind 5 = .ok (.aload_n 0, 1) := by decide +kernel
theorem dX9_readsKind_6 : decode cX9_readsKind 6 = .ok (.invokevirtual 98, 3) := by decide +kernel
theorem dX9_readsKind_9 : decode cX9_readsKind 9 = .ok (.invokestatic 102, 3) := by decide +kernel
theorem dX9_readsKind_12 : decode cX9_readsKind 12 = .ok (.iastore, 1) := by decide +kernel
theorem dX9_readsKind_13 : decode cX9_readsKind 13 = .ok (.aload_n 0, 1) := by decide +kernel
theorem dX9_readsKind_14 : decode cX9_readsKind 14 = .ok (.dup, 1) := by decide +kernel
theorem dX9_readsKind_15 : decode cX9_readsKind 15 = .ok (.getfield 95, 3) := by decide +kernel
theorem dX9_readsKind_18 : decode cX9_readsKind 18 = .ok (.aload_n 0, 1) := by decide +kernel
theorem dX9_readsKind_19 : decode cX9_readsKind 19 = .ok (.getfield 34, 3) := by decide +kernel
theorem dX9_readsKind_22 : decode cX9_readsKind 22 = .ok (.iconst 0, 1) := by decide +kernel
theorem dX9_readsKind_23 : decode cX9_readsKind 23 = .ok (.iaload, 1) := by decide +kernel
theorem dX9_readsKind_24 : decode cX9_readsKind 24 = .ok (.ifCond .ge 7, 3) := by decide +kernel
theorem dX9_readsKind_27 : decode cX9_readsKind 27 = .ok (.iconst 0, 1) := by decide +kernel
theorem dX9_readsKind_28 : decode cX9_readsKind 28 = .ok (.goto 4, 3) := by decide +kernel
theorem dX9_readsKind_31 : decode cX9_readsKind 31 = .ok (.iconst 1, 1) := by decide +kernel
theorem dX9_readsKind_32 : decode cX9_readsKind 32 = .ok (.iadd, 1) := by decide +kernel
theorem dX9_readsKind_33 : decode cX9_readsKind 33 = .ok (.putfield 95, 3) := by decide +kernel
theorem dX9_readsKind_36 : decode cX9_readsKind 36 = .ok (.aload_n 0, 1) := by decide +kernel
theorem dX9_readsKind_37 : decode cX9_readsKind 37 = .ok (.getfield 34, 3) := by decide +kernel
theorem dX9_readsKind_40 : decode cX9_readsKind 40 = .ok (.iconst 0, 1) := by decide +kernel
theorem dX9_readsKind_41 : decode cX9_readsKind 41 = .ok (.iaload, 1) := by decide +kernel
theorem dX9_readsKind_42 : decode cX9_readsKind 42 = .ok (.ifCond .lt 7, 3) := by decide +kernel
theorem dX9_readsKind_45 : decode cX9_readsKind 45 = .ok (.iconst 1, 1) := by decide +kernel
theorem dX9_readsKind_46 : decode cX9_readsKind 46 = .ok (.goto 4, 3) := by decide +kernel
theorem dX9_readsKind_49 : decode cX9_readsKind 49 = .ok (.iconst 0, 1) := by decide +kernel
theorem dX9_readsKind_50 : decode cX9_readsKind 50 = .ok (.ireturn, 1) := by decide +kernel
theorem dX9_readsStatement_0 : decode cX9_readsStatement 0 = .ok (.aload_n 0, 1) := by decide +kernel
theorem dX9_readsStatement_1 : decode cX9_readsStatement 1 = .ok (.invokevirtual 98, 3) := by decide +kernel
theorem dX9_readsStatement_4 : decode cX9_readsStatement 4 = .ok (.istore_n 1, 1) := by decide +kernel
theorem dX9_readsStatement_5 : decode cX9_readsStatement 5 = .ok (.aload_n 0, 1) := by decide +kernel
theorem dX9_readsStatement_6 : decode cX9_readsStatement 6 = .ok (.dup, 1) := by decide +kernel
theorem dX9_readsStatement_7 : decode cX9_readsStatement 7 = .ok (.getfield 95, 3) := by decide +kernel
theorem dX9_readsStatement_10 : decode cX9_readsStatement 10 = .ok (.iconst 1, 1) := by decide +kernel
theorem dX9_readsStatement_11 : decode cX9_readsStatement 11 = .ok (.iadd, 1) := by decide +kernel
theorem dX9_readsStatement_12 : decode cX9_readsStatement 12 = .ok (.putfield 95, 3) := by decide +kernel
theorem dX9_readsStatement_15 : decode cX9_readsStatement 15 = .ok (.iload_n 1, 1) := by decide +kernel
theorem dX9_readsStatement_16 : decode cX9_readsStatement 16 = .ok (.tableswitch 175 98 112 #[128, 175, 175, 175, 138, 175, 175, 175, 175, 101, 101, 165, 175, 175, 76], 76) := by decide +kernel
theorem dX9_readsStatement_92 : decode cX9_readsStatement 92 = .ok (.aload_n 0, 1) := by decide +kernel
theorem dX9_readsStatement_93 : decode cX9_readsStatement 93 = .ok (.invokevirtual 105, 3) := by decide +kernel
theorem dX9_readsStatement_96 : decode cX9_readsStatement 96 = .ok (.ifCond .eq 16, 3) := by decide +kernel
theorem dX9_readsStatement_99 : decode cX9_readsStatement 99 = .ok (.aload_n 0, 1) := by decide +kernel
theorem dX9_readsStatement_100 : decode cX9_readsStatement 100 = .ok (.iconst 1, 1) := by decide +kernel
theorem dX9_readsStatement_101 : decode cX9_readsStatement 101 = .ok (.iconst 1, 1) := by decide +kernel
theorem dX9_readsStatement_102 : decode cX9_readsStatement 102 = .ok (.invokevirtual 109, 3) := by decide +kernel
theorem dX9_readsStatement_105 : decode cX9_readsStatement 105 = .ok (.ifCond .eq 7, 3) := by decide +kernel
theorem dX9_readsStatement_108 : decode cX9_readsStatement 108 = .ok (.iconst 1, 1) := by decide +kernel
theorem dX9_readsStatement_109 : decode cX9_readsStatement 109 = .ok (.goto 4, 3) := by decide +kernel
theorem dX9_readsStatement_112 : decode cX9_readsStatement 112 = .ok (.iconst 0, 1) := by decide +kernel
theorem dX9_readsStatement_113 : decode cX9_readsStatement 113 = .ok (.istore_n 2, 1) := by decide +kernel
theorem dX9_readsStatement_114 : decode cX9_readsStatement 114 = .ok (.goto 89, 3) := by decide +kernel
theorem dX9_readsStatement_117 : decode cX9_readsStatement 117 = .ok (.aload_n 0, 1) := by decide +kernel
theorem dX9_readsStatement_118 : decode cX9_readsStatement 118 = .ok (.iconst 0, 1) := by decide +kernel
theorem dX9_readsStatement_119 : decode cX9_readsStatement 119 = .ok (.iconst 1, 1) := by decide +kernel
theorem dX9_readsStatement_120 : decode cX9_readsStatement 120 = .ok (.invokevirtual 109, 3) := by decide +kernel
theorem dX9_readsStatement_123 : decode cX9_readsStatement 123 = .ok (.ifCond .eq 16, 3) := by decide +kernel
theorem dX9_readsStatement_126 : decode cX9_readsStatement 126 = .ok (.aload_n 0, 1) := by decide +kernel
theorem dX9_readsStatement_127 : decode cX9_readsStatement 127 = .ok (.iconst 1, 1) := by decide +kernel
theorem dX9_readsStatement_128 : decode cX9_readsStatement 128 = .ok (.iconst 1, 1) := by decide +kernel
theorem dX9_readsStatement_129 : decode cX9_readsStatement 129 = .ok (.invokevirtual 109, 3) := by decide +kernel
theorem dX9_readsStatement_132 : decode cX9_readsStatement 132 = .ok (.ifCond .eq 7, 3) := by decide +kernel
theorem dX9_readsStatement_135 : decode cX9_readsStatement 135 = .ok (.iconst 1, 1) := by decide +kernel
theorem dX9_readsStatement_136 : decode cX9_readsStatement 136 = .ok (.goto 4, 3) := by decide +kernel
theorem dX9_readsStatement_139 : decode cX9_readsStatement 139 = .ok (.iconst 0, 1) := by decide +kernel
theorem dX9_readsStatement_140 : decode cX9_readsStatement 140 = .ok (.istore_n 2, 1) := by decide +kernel
theorem dX9_readsStatement_141 : decode cX9_readsStatement 141 = .ok (.goto 62, 3) := by decide +kernel
theorem dX9_readsStatement_144 : decode cX9_readsStatement 144 = .ok (.aload_n 0, 1) := by decide +kernel
theorem dX9_readsStatement_145 : decode cX9_readsStatement 145 = .ok (.iconst 0, 1) := by decide +kernel
theorem dX9_readsStatement_146 : decode cX9_readsStatement 146 = .ok (.iconst 1, 1) := by decide +kernel
theorem dX9_readsStatement_147 : decode cX9_readsStatement 147 = .ok (.invokevirtual 109, 3) := by decide +kernel
theorem dX9_readsStatement_150 : decode cX9_readsStatement 150 = .ok (.istore_n 2, 1) := by decide +kernel
theorem dX9_readsStatement_151 : decode cX9_readsStatement 151 = .ok (.goto 52, 3) := by decide +kernel
theorem dX9_readsStatement_154 : decode cX9_readsStatement 154 = .ok (.aload_n 0, 1) := by decide +kernel
theorem dX9_readsStatement_155 : decode cX9_readsStatement 155 = .ok (.iconst 0, 1) := by decide +kernel
theorem dX9_readsStatement_156 : decode cX9_readsStatement 156 = .ok (.iconst 1, 1) := by decide +kernel
theorem dX9_readsStatement_157 : decode cX9_readsStatement 157 = .ok (.invokevirtual 109, 3) := by decide +kernel
theorem dX9_readsStatement_160 : decode cX9_readsStatement 160 = .ok (.ifCond .eq 16, 3) := by decide +kernel
theorem dX9_readsStatement_163 : decode cX9_readsStatement 163 = .ok (.aload_n 0, 1) := by decide +kernel
theorem dX9_readsStatement_164 : decode cX9_readsStatement 164 = .ok (.iconst 1, 1) := by decide +kernel
theorem dX9_readsStatement_165 : decode cX9_readsStatement 165 = .ok (.iconst 2, 1) := by decide +kernel
theorem dX9_readsStatement_166 : decode cX9_readsStatement 166 = .ok (.invokevirtual 109, 3) := by decide +kernel
theorem dX9_readsStatement_169 : decode cX9_readsStatement 169 = .ok (.ifCond .eq 7, 3) := by decide +kernel
theorem dX9_readsStatement_172 : decode cX9_readsStatement 172 = .ok (.iconst 1, 1) := by decide +kernel
theorem dX9_readsStatement_173 : decode cX9_readsStatement 173 = .ok (.goto 4, 3) := by decide +kernel
theorem dX9_readsStatement_176 : decode cX9_readsStatement 176 = .ok (.iconst 0, 1) := by decide +kernel
theorem dX9_readsStatement_177 : decode cX9_readsStatement 177 = .ok (.istore_n 2, 1) := by decide +kernel
theorem dX9_readsStatement_178 : decode cX9_readsStatement 178 = .ok (.goto 25, 3) := by decide +kernel
theorem dX9_readsStatement_181 : decode cX9_readsStatement 181 = .ok (.aload_n 0, 1) := by decide +kernel
theorem dX9_readsStatement_182 : decode cX9_readsStatement 182 = .ok (.iconst 0, 1) := by decide +kernel
theorem dX9_readsStatement_183 : decode cX9_readsStatement 183 = .ok (.iconst 2, 1) := by decide +kernel
theorem dX9_readsStatement_184 : decode cX9_readsStatement 184 = .ok (.invokevirtual 109, 3) := by decide +kernel
theorem dX9_readsStatement_187 : decode cX9_readsStatement 187 = .ok (.istore_n 2, 1) := by decide +kernel
theorem dX9_readsStatement_188 : decode cX9_readsStatement 188 = .ok (.goto 15, 3) := by decide +kernel
theorem dX9_readsStatement_191 : decode cX9_readsStatement 191 = .ok (.aload_n 0, 1) := by decide +kernel
theorem dX9_readsStatement_192 : decode cX9_readsStatement 192 = .ok (.dup, 1) := by decide +kernel
theorem dX9_readsStatement_193 : decode cX9_readsStatement 193 = .ok (.getfield 95, 3) := by decide +kernel
theorem dX9_readsStatement_196 : decode cX9_readsStatement 196 = .ok (.iconst 1, 1) := by decide +kernel
theorem dX9_readsStatement_197 : decode cX9_readsStatement 197 = .ok (.isub, 1) := by decide +kernel
theorem dX9_readsStatement_198 : decode cX9_readsStatement 198 = .ok (.putfield 95, 3) := by decide +kernel
theorem dX9_readsStatement_201 : decode cX9_readsStatement 201 = .ok (.iconst 0, 1) := by decide +kernel
theorem dX9_readsStatement_202 : decode cX9_readsStatement 202 = .ok (.ireturn, 1) := by decide +kernel
theorem dX9_readsStatement_203 : decode cX9_readsStatement 203 = .ok (.iload_n 2, 1) := by decide +kernel
theorem dX9_readsStatement_204 : decode cX9_readsStatement 204 = .ok (.ifCond .eq 12, 3) := by decide +kernel
theorem dX9_readsStatement_207 : decode cX9_readsStatement 207 = .ok (.aload_n 0, 1) := by decide +kernel
theorem dX9_readsStatement_208 : decode cX9_readsStatement 208 = .ok (.invokevirtual 98, 3) := by decide +kernel
theorem dX9_readsStatement_211 : decode cX9_readsStatement 211 = .ok (.bipush 59, 2) := by decide +kernel
theorem dX9_readsStatement_213 : decode cX9_readsStatement 213 = .ok (.if_icmp .eq 5, 3) := by decide +kernel
theorem dX9_readsStatement_216 : decode cX9_readsStatement 216 = .ok (.iconst 0, 1) := by decide +kernel
theorem dX9_readsStatement_217 : decode cX9_readsStatement 217 = .ok (.ireturn, 1) := by decide +kernel
theorem dX9_readsStatement_218 : decode cX9_readsStatement 218 = .ok (.aload_n 0, 1) := by decide +kernel
theorem dX9_readsStatement_219 : decode cX9_readsStatement 219 = .ok (.dup, 1) := by decide +kernel
theorem dX9_readsStatement_220 : decode cX9_readsStatement 220 = .ok (.getfield 95, 3) := by decide +kernel
theorem dX9_readsStatement_223 : decode cX9_readsStatement 223 = .ok (.iconst 1, 1) := by decide +kernel
theorem dX9_readsStatement_224 : decode cX9_readsStatement 224 = .ok (.iadd, 1) := by decide +kernel
theorem dX9_readsStatement_225 : decode cX9_readsStatement 225 = .ok (.putfield 95, 3) := by decide +kernel
theorem dX9_readsStatement_228 : decode cX9_readsStatement 228 = .ok (.iconst 1, 1) := by decide +kernel
theorem dX9_readsStatement_229 : decode cX9_readsStatement 229 = .ok (.ireturn, 1) := by decide +kernel
theorem dX9_adds_0 : decode cX9_adds 0 = .ok (.aload_n 0, 1) := by decide +kernel
theorem dX9_adds_1 : decode cX9_adds 1 = .ok (.getfield 9, 3) := by decide +kernel
theorem dX9_adds_4 : decode cX9_adds 4 = .ok (.iconst 0, 1) := by decide +kernel
theorem dX9_adds_5 : decode cX9_adds 5 = .ok (.iaload, 1) := by decide +kernel
theorem dX9_adds_6 : decode cX9_adds 6 = .ok (.bipush 8, 2) := by decide +kernel
theorem dX9_adds_8 : decode cX9_adds 8 = .ok (.if_icmp .ne 5, 3) := by decide +kernel
theorem dX9_adds_11 : decode cX9_adds 11 = .ok (.iconst 0, 1) := by decide +kernel
theorem dX9_adds_12 : decode cX9_adds 12 = .ok (.ireturn, 1) := by decide +kernel
theorem dX9_adds_13 : decode cX9_adds 13 = .ok (.aload_n 0, 1) := by decide +kernel
theorem dX9_adds_14 : decode cX9_adds 14 = .ok (.getfield 9, 3) := by decide +kernel
theorem dX9_adds_17 : decode cX9_adds 17 = .ok (.iconst 0, 1) := by decide +kernel
theorem dX9_adds_18 : decode cX9_adds 18 = .ok (.iaload, 1) := by decide +kernel
theorem dX9_adds_19 : decode cX9_adds 19 = .ok (.istore_n 3, 1) := by decide +kernel
theorem dX9_adds_20 : decode cX9_adds 20 = .ok (.aload_n 0, 1) := by decide +kernel
theorem dX9_adds_21 : decode cX9_adds 21 = .ok (.getfield 9, 3) := by decide +kernel
theorem dX9_adds_24 : decode cX9_adds 24 = .ok (.iload_n 3, 1) := by decide +kernel
theorem dX9_adds_25 : decode cX9_adds 25 = .ok (.iconst 0, 1) := by decide +kernel
theorem dX9_adds_26 : decode cX9_adds 26 = .ok (.invokestatic 52, 3) := by decide +kernel
theorem dX9_adds_29 : decode cX9_adds 29 = .ok (.iload_n 1, 1) := by decide +kernel
theorem dX9_adds_30 : decode cX9_adds 30 = .ok (.iastore, 1) := by decide +kernel
theorem dX9_adds_31 : decode cX9_adds 31 = .ok (.aload_n 0, 1) := by decide +kernel
theorem dX9_adds_32 : decode cX9_adds 32 = .ok (.getfield 9, 3) := by decide +kernel
theorem dX9_adds_35 : decode cX9_adds 35 = .ok (.iload_n 3, 1) := by decide +kernel
theorem dX9_adds_36 : decode cX9_adds 36 = .ok (.iconst 1, 1) := by decide +kernel
theorem dX9_adds_37 : decode cX9_adds 37 = .ok (.invokestatic 52, 3) := by decide +kernel
theorem dX9_adds_40 : decode cX9_adds 40 = .ok (.iload_n 2, 1) := by decide +kernel
theorem dX9_adds_41 : decode cX9_adds 41 = .ok (.iastore, 1) := by decide +kernel
theorem dX9_adds_42 : decode cX9_adds 42 = .ok (.aload_n 0, 1) := by decide +kernel
theorem dX9_adds_43 : decode cX9_adds 43 = .ok (.getfield 9, 3) := by decide +kernel
theorem dX9_adds_46 : decode cX9_adds 46 = .ok (.iload_n 3, 1) := by decide +kernel
theorem dX9_adds_47 : decode cX9_adds 47 = .ok (.iconst 2, 1) := by decide +kernel
theorem dX9_adds_48 : decode cX9_adds 48 = .ok (.invokestatic 52, 3) := by decide +kernel
theorem dX9_adds_51 : decode cX9_adds 51 = .ok (.iconst 1, 1) := by decide +kernel
theorem dX9_adds_52 : decode cX9_adds 52 = .ok (.iload_n 3, 1) := by decide +kernel
theorem dX9_adds_53 : decode cX9_adds 53 = .ok (.ishl, 1) := by decide +kernel
theorem dX9_adds_54 : decode cX9_adds 54 = .ok (.iastore, 1) := by decide +kernel
theorem dX9_adds_55 : decode cX9_adds 55 = .ok (.aload_n 0, 1) := by decide +kernel
theorem dX9_adds_56 : decode cX9_adds 56 = .ok (.getfield 9, 3) := by decide +kernel
theorem dX9_adds_59 : decode cX9_adds 59 = .ok (.iload_n 3, 1) := by decide +kernel
theorem dX9_adds_60 : decode cX9_adds 60 = .ok (.iconst 3, 1) := by decide +kernel
theorem dX9_adds_61 : decode cX9_adds 61 = .ok (.invokestatic 52, 3) := by decide +kernel
theorem dX9_adds_64 : decode cX9_adds 64 = .ok (.iload_n 3, 1) := by decide +kernel
theorem dX9_adds_65 : decode cX9_adds 65 = .ok (.iastore, 1) := by decide +kernel
theorem dX9_adds_66 : decode cX9_adds 66 = .ok (.aload_n 0, 1) := by decide +kernel
theorem dX9_adds_67 : decode cX9_adds 67 = .ok (.getfield 9, 3) := by decide +kernel
theorem dX9_adds_70 : decode cX9_adds 70 = .ok (.iload_n 3, 1) := by decide +kernel
theorem dX9_adds_71 : decode cX9_adds 71 = .ok (.iconst 4, 1) := by decide +kernel
theorem dX9_adds_72 : decode cX9_adds 72 = .ok (.invokestatic 52, 3) := by decide +kernel
theorem dX9_adds_75 : decode cX9_adds 75 = .ok (.bipush 50, 2) := by decide +kernel
theorem dX9_adds_77 : decode cX9_adds 77 = .ok (.iastore, 1) := by decide +kernel
theorem dX9_adds_78 : decode cX9_adds 78 = .ok (.aload_n 0, 1) := by decide +kernel
theorem dX9_adds_79 : decode cX9_adds 79 = .ok (.getfield 9, 3) := by decide +kernel
theorem dX9_adds_82 : decode cX9_adds 82 = .ok (.iload_n 3, 1) := by decide +kernel
theorem dX9_adds_83 : decode cX9_adds 83 = .ok (.iconst 5, 1) := by decide +kernel
theorem dX9_adds_84 : decode cX9_adds 84 = .ok (.invokestatic 52, 3) := by decide +kernel
theorem dX9_adds_87 : decode cX9_adds 87 = .ok (.iconst 0, 1) := by decide +kernel
theorem dX9_adds_88 : decode cX9_adds 88 = .ok (.iastore, 1) := by decide +kernel
theorem dX9_adds_89 : decode cX9_adds 89 = .ok (.aload_n 0, 1) := by decide +kernel
theorem dX9_adds_90 : decode cX9_adds 90 = .ok (.getfield 9, 3) := by decide +kernel
theorem dX9_adds_93 : decode cX9_adds 93 = .ok (.iload_n 3, 1) := by decide +kernel
theorem dX9_adds_94 : decode cX9_adds 94 = .ok (.bipush 6, 2) := by decide +kernel
theorem dX9_adds_96 : decode cX9_adds 96 = .ok (.invokestatic 52, 3) := by decide +kernel
theorem dX9_adds_99 : decode cX9_adds 99 = .ok (.iconst 0, 1) := by decide +kernel
theorem dX9_adds_100 : decode cX9_adds 100 = .ok (.iastore, 1) := by decide +kernel
theorem dX9_adds_101 : decode cX9_adds 101 = .ok (.aload_n 0, 1) := by decide +kernel
theorem dX9_adds_102 : decode cX9_adds 102 = .ok (.getfield 9, 3) := by decide +kernel
theorem dX9_adds_105 : decode cX9_adds 105 = .ok (.iconst 0, 1) := by decide +kernel
theorem dX9_adds_106 : decode cX9_adds 106 = .ok (.dup2, 1) := by decide +kernel
theorem dX9_adds_107 : decode cX9_adds 107 = .ok (.iaload, 1) := by decide +kernel
theorem dX9_adds_108 : decode cX9_adds 108 = .ok (.iconst 1, 1) := by decide +kernel
theorem dX9_adds_109 : decode cX9_adds 109 = .ok (.iadd, 1) := by decide +kernel
theorem dX9_adds_110 : decode cX9_adds 110 = .ok (.iastore, 1) := by decide +kernel
theorem dX9_adds_111 : decode cX9_adds 111 = .ok (.iconst 1, 1) := by decide +kernel
theorem dX9_adds_112 : decode cX9_adds 112 = .ok (.ireturn, 1) := by decide +kernel
theorem dX9_isDone_0 : decode cX9_isDone 0 = .ok (.aload_n 0, 1) := by decide +kernel
theorem dX9_isDone_1 : decode cX9_isDone 1 = .ok (.getfield 34, 3) := by decide +kernel
theorem dX9_isDone_4 : decode cX9_isDone 4 = .ok (.iconst 0, 1) := by decide +kernel
theorem dX9_isDone_5 : decode cX9_isDone 5 = .ok (.iaload, 1) := by decide +kernel
theorem dX9_isDone_6 : decode cX9_isDone 6 = .ok (.istore_n 2, 1) := by decide +kernel
theorem dX9_isDone_7 : decode cX9_isDone 7 = .ok (.aload_n 0, 1) := by decide +kernel
theorem dX9_isDone_8 : decode cX9_isDone 8 = .ok (.getfield 34, 3) := by decide +kernel
theorem dX9_isDone_11 : decode cX9_isDone 11 = .ok (.iconst 1, 1) := by decide +kernel
theorem dX9_isDone_12 : decode cX9_isDone 12 = .ok (.iaload, 1) := by decide +kernel
theorem dX9_isDone_13 : decode cX9_isDone 13 = .ok (.istore_n 3, 1) := by decide +kernel
theorem dX9_isDone_14 : decode cX9_isDone 14 = .ok (.iconst 0, 1) := by decide +kernel
theorem dX9_isDone_15 : decode cX9_isDone 15 = .ok (.istore 4, 2) := by decide +kernel
theorem dX9_isDone_17 : decode cX9_isDone 17 = .ok (.iload_n 1, 1) := by decide +kernel
theorem dX9_isDone_18 : decode cX9_isDone 18 = .ok (.tableswitch 210 98 112 #[115, 210, 210, 210, 187, 210, 210, 210, 210, 151, 81, 210, 210, 210, 74], 74) := by decide +kernel
theorem dX9_isDone_92 : decode cX9_isDone 92 = .ok (.aload_n 0, 1) := by decide +kernel
theorem dX9_isDone_93 : decode cX9_isDone 93 = .ok (.iload_n 2, 1) := by decide +kernel
theorem dX9_isDone_94 : decode cX9_isDone 94 = .ok (.iload_n 3, 1) := by decide +kernel
theorem dX9_isDone_95 : decode cX9_isDone 95 = .ok (.invokevirtual 112, 3) := by decide +kernel
theorem dX9_isDone_98 : decode cX9_isDone 98 = .ok (.ireturn, 1) := by decide +kernel
theorem dX9_isDone_99 : decode cX9_isDone 99 = .ok (.aload_n 0, 1) := by decide +kernel
theorem dX9_isDone_100 : decode cX9_isDone 100 = .ok (.iload_n 2, 1) := by decide +kernel
theorem dX9_isDone_101 : decode cX9_isDone 101 = .ok (.iload_n 3, 1) := by decide +kernel
theorem dX9_isDone_102 : decode cX9_isDone 102 = .ok (.invokevirtual 115, 3) := by decide +kernel
theorem dX9_isDone_105 : decode cX9_isDone 105 = .ok (.ifCond .eq 15, 3) := by decide +kernel
theorem dX9_isDone_108 : decode cX9_isDone 108 = .ok (.aload_n 0, 1) := by decide +kernel
theorem dX9_isDone_109 : decode cX9_isDone 109 = .ok (.getfield 9, 3) := by decide +kernel
theorem dX9_isDone_112 : decode cX9_isDone 112 = .ok (.iload_n 2, 1) := by decide +kernel
theorem dX9_isDone_113 : decode cX9_isDone 113 = .ok (.iload_n 3, 1) := by decide +kernel
theorem dX9_isDone_114 : decode cX9_isDone 114 = .ok (.invokestatic 118, 3) := by decide +kernel
theorem dX9_isDone_117 : decode cX9_isDone 117 = .ok (.ifCond .ne 5, 3) := by decide +kernel
theorem dX9_isDone_120 : decode cX9_isDone 120 = .ok (.iconst 0, 1) := by decide +kernel
theorem dX9_isDone_121 : decode cX9_isDone 121 = .ok (.ireturn, 1) := by decide +kernel
theorem dX9_isDone_122 : decode cX9_isDone 122 = .ok (.aload_n 0, 1) := by decide +kernel
theorem dX9_isDone_123 : decode cX9_isDone 123 = .ok (.getfield 9, 3) := by decide +kernel
theorem dX9_isDone_126 : decode cX9_isDone 126 = .ok (.iload_n 2, 1) := by decide +kernel
theorem dX9_isDone_127 : decode cX9_isDone 127 = .ok (.iload_n 3, 1) := by decide +kernel
theorem dX9_isDone_128 : decode cX9_isDone 128 = .ok (.invokestatic 122, 3) := by decide +kernel
theorem dX9_isDone_131 : decode cX9_isDone 131 = .ok (.iconst 1, 1) := by decide +kernel
theorem dX9_isDone_132 : decode cX9_isDone 132 = .ok (.ireturn, 1) := by decide +kernel
theorem dX9_isDone_133 : decode cX9_isDone 133 = .ok (.aload_n 0, 1) := by decide +kernel
theorem dX9_isDone_134 : decode cX9_isDone 134 = .ok (.iload_n 2, 1) := by decide +kernel
theorem dX9_isDone_135 : decode cX9_isDone 135 = .ok (.invokevirtual 48, 3) := by decide +kernel
theorem dX9_isDone_138 : decode cX9_isDone 138 = .ok (.ifCond .eq 17, 3) := by decide +kernel
theorem dX9_isDone_141 : decode cX9_isDone 141 = .ok (.aload_n 0, 1) := by decide +kernel
theorem dX9_isDone_142 : decode cX9_isDone 142 = .ok (.getfield 9, 3) := by decide +kernel
theorem dX9_isDone_145 : decode cX9_isDone 145 = .ok (.iload_n 2, 1) := by decide +kernel
theorem dX9_isDone_146 : decode cX9_isDone 146 = .ok (.bipush 6, 2) := by decide +kernel
theorem dX9_isDone_148 : decode cX9_isDone 148 = .ok (.invokestatic 52, 3) := by decide +kernel
theorem dX9_isDone_151 : decode cX9_isDone 151 = .ok (.iaload, 1) := by decide +kernel
theorem dX9_isDone_152 : decode cX9_isDone 152 = .ok (.ifCond .ne 5, 3) := by decide +kernel
theorem dX9_isDone_155 : decode cX9_isDone 155 = .ok (.iconst 0, 1) := by decide +kernel
theorem dX9_isDone_156 : decode cX9_isDone 156 = .ok (.ireturn, 1) := by decide +kernel
theorem dX9_isDone_157 : decode cX9_isDone 157 = .ok (.aload_n 0, 1) := by decide +kernel
theorem dX9_isDone_158 : decode cX9_isDone 158 = .ok (.getfield 9, 3) := by decide +kernel
theorem dX9_isDone_161 : decode cX9_isDone 161 = .ok (.iload_n 2, 1) := by decide +kernel
theorem dX9_isDone_162 : decode cX9_isDone 162 = .ok (.invokestatic 81, 3) := by decide +kernel
theorem dX9_isDone_165 : decode cX9_isDone 165 = .ok (.istore 4, 2) := by decide +kernel
theorem dX9_isDone_167 : decode cX9_isDone 167 = .ok (.iconst 1, 1) := by decide +kernel
theorem dX9_isDone_168 : decode cX9_isDone 168 = .ok (.ireturn, 1) := by decide +kernel
theorem dX9_isDone_169 : decode cX9_isDone 169 = .ok (.aload_n 0, 1) := by decide +kernel
theorem dX9_isDone_170 : decode cX9_isDone 170 = .ok (.iload_n 2, 1) := by decide +kernel
theorem dX9_isDone_171 : decode cX9_isDone 171 = .ok (.invokevirtual 48, 3) := by decide +kernel
theorem dX9_isDone_174 : decode cX9_isDone 174 = .ok (.ifCond .eq 11, 3) := by decide +kernel
theorem dX9_isDone_177 : decode cX9_isDone 177 = .ok (.aload_n 0, 1) := by decide +kernel
theorem dX9_isDone_178 : decode cX9_isDone 178 = .ok (.iload_n 3, 1) := by decide +kernel
theorem dX9_isDone_179 : decode cX9_isDone 179 = .ok (.invokevirtual 48, 3) := by decide +kernel
theorem dX9_isDone_182 : decode cX9_isDone 182 = .ok (.ifCond .ne 5, 3) := by decide +kernel
theorem dX9_isDone_185 : decode cX9_isDone 185 = .ok (.iconst 0, 1) := by decide +kernel
theorem dX9_isDone_186 : decode cX9_isDone 186 = .ok (.ireturn, 1) := by decide +kernel
theorem dX9_isDone_187 : decode cX9_isDone 187 = .ok (.aload_n 0, 1) := by decide +kernel
theorem dX9_isDone_188 : decode cX9_isDone 188 = .ok (.getfield 9, 3) := by decide +kernel
theorem dX9_isDone_191 : decode cX9_isDone 191 = .ok (.iload_n 2, 1) := by decide +kernel
theorem dX9_isDone_192 : decode cX9_isDone 192 = .ok (.iconst 2, 1) := by decide +kernel
theorem dX9_isDone_193 : decode cX9_isDone 193 = .ok (.invokestatic 52, 3) := by decide +kernel
theorem dX9_isDone_196 : decode cX9_isDone 196 = .ok (.dup2, 1) := by decide +kernel
theorem dX9_isDone_197 : decode cX9_isDone 197 = .ok (.iaload, 1) := by decide +kernel
theorem dX9_isDone_198 : decode cX9_isDone 198 = .ok (.iconst 1, 1) := by decide +kernel
theorem dX9_isDone_199 : decode cX9_isDone 199 = .ok (.iload_n 3, 1) := by decide +kernel
theorem dX9_isDone_200 : decode cX9_isDone 200 = .ok (.ishl, 1) := by decide +kernel
theorem dX9_isDone_201 : decode cX9_isDone 201 = .ok (.ixor, 1) := by decide +kernel
theorem dX9_isDone_202 : decode cX9_isDone 202 = .ok (.iastore, 1) := by decide +kernel
theorem dX9_isDone_203 : decode cX9_isDone 203 = .ok (.iconst 1, 1) := by decide +kernel
theorem dX9_isDone_204 : decode cX9_isDone 204 = .ok (.ireturn, 1) := by decide +kernel
theorem dX9_isDone_205 : decode cX9_isDone 205 = .ok (.aload_n 0, 1) := by decide +kernel
theorem dX9_isDone_206 : decode cX9_isDone 206 = .ok (.iload_n 2, 1) := by decide +kernel
theorem dX9_isDone_207 : decode cX9_isDone 207 = .ok (.invokevirtual 48, 3) := by decide +kernel
theorem dX9_isDone_210 : decode cX9_isDone 210 = .ok (.ifCond .ne 5, 3) := by decide +kernel
theorem dX9_isDone_213 : decode cX9_isDone 213 = .ok (.iconst 0, 1) := by decide +kernel
theorem dX9_isDone_214 : decode cX9_isDone 214 = .ok (.ireturn, 1) := by decide +kernel
theorem dX9_isDone_215 : decode cX9_isDone 215 = .ok (.aload_n 0, 1) := by decide +kernel
theorem dX9_isDone_216 : decode cX9_isDone 216 = .ok (.getfield 9, 3) := by decide +kernel
theorem dX9_isDone_219 : decode cX9_isDone 219 = .ok (.iload_n 2, 1) := by decide +kernel
theorem dX9_isDone_220 : decode cX9_isDone 220 = .ok (.iconst 4, 1) := by decide +kernel
theorem dX9_isDone_221 : decode cX9_isDone 221 = .ok (.invokestatic 52, 3) := by decide +kernel
theorem dX9_isDone_224 : decode cX9_isDone 224 = .ok (.iload_n 3, 1) := by decide +kernel
theorem dX9_isDone_225 : decode cX9_isDone 225 = .ok (.iastore, 1) := by decide +kernel
theorem dX9_isDone_226 : decode cX9_isDone 226 = .ok (.iconst 1, 1) := by decide +kernel
theorem dX9_isDone_227 : decode cX9_isDone 227 = .ok (.ireturn, 1) := by decide +kernel
theorem dX9_isDone_228 : decode cX9_isDone 228 = .ok (.iload_n 2, 1) := by decide +kernel
theorem dX9_isDone_229 : decode cX9_isDone 229 = .ok (.iconst 1, 1) := by decide +kernel
theorem dX9_isDone_230 : decode cX9_isDone 230 = .ok (.bipush 60, 2) := by decide +kernel
theorem dX9_isDone_232 : decode cX9_isDone 232 = .ok (.invokestatic 44, 3) := by decide +kernel
theorem dX9_isDone_235 : decode cX9_isDone 235 = .ok (.ifCond .eq 17, 3) := by decide +kernel
theorem dX9_isDone_238 : decode cX9_isDone 238 = .ok (.aload_n 0, 1) := by decide +kernel
theorem dX9_isDone_239 : decode cX9_isDone 239 = .ok (.getfield 9, 3) := by decide +kernel
theorem dX9_isDone_242 : decode cX9_isDone 242 = .ok (.iconst 1, 1) := by decide +kernel
theorem dX9_isDone_243 : decode cX9_isDone 243 = .ok (.iaload, 1) := by decide +kernel
theorem dX9_isDone_244 : decode cX9_isDone 244 = .ok (.iload_n 2, 1) := by decide +kernel
theorem dX9_isDone_245 : decode cX9_isDone 245 = .ok (.iadd, 1) := by decide +kernel
theorem dX9_isDone_246 : decode cX9_isDone 246 = .ok (.sipush 999, 3) := by decide +kernel
theorem dX9_isDone_249 : decode cX9_isDone 249 = .ok (.if_icmp .le 5, 3) := by decide +kernel
theorem dX9_isDone_252 : decode cX9_isDone 252 = .ok (.iconst 0, 1) := by decide +kernel
theorem dX9_isDone_253 : decode cX9_isDone 253 = .ok (.ireturn, 1) := by decide +kernel
theorem dX9_isDone_254 : decode cX9_isDone 254 = .ok (.aload_n 0, 1) := by decide +kernel
theorem dX9_isDone_255 : decode cX9_isDone 255 = .ok (.getfield 9, 3) := by decide +kernel
theorem dX9_isDone_258 : decode cX9_isDone 258 = .ok (.iload_n 2, 1) := by decide +kernel
theorem dX9_isDone_259 : decode cX9_isDone 259 = .ok (.invokestatic 126, 3) := by decide +kernel
theorem dX9_isDone_262 : decode cX9_isDone 262 = .ok (.iconst 1, 1) := by decide +kernel
theorem dX9_isDone_263 : decode cX9_isDone 263 = .ok (.ireturn, 1) := by decide +kernel
theorem dX9_town_0 : decode cX9_town 0 = .ok (.aload_n 0, 1) := by decide +kernel
theorem dX9_town_1 : decode cX9_town 1 = .ok (.iconst 0, 1) := by decide +kernel
theorem dX9_town_2 : decode cX9_town 2 = .ok (.putfield 95, 3) := by decide +kernel
theorem dX9_town_5 : decode cX9_town 5 = .ok (.iconst 0, 1) := by decide +kernel
theorem dX9_town_6 : decode cX9_town 6 = .ok (.istore_n 1, 1) := by decide +kernel
theorem dX9_town_7 : decode cX9_town 7 = .ok (.bipush (-9), 2) := by decide +kernel
theorem dX9_town_9 : decode cX9_town 9 = .ok (.istore_n 2, 1) := by decide +kernel
theorem dX9_town_10 : decode cX9_town 10 = .ok (.aload_n 0, 1) := by decide +kernel
theorem dX9_town_11 : decode cX9_town 11 = .ok (.invokevirtual 130, 3) := by decide +kernel
theorem dX9_town_14 : decode cX9_town 14 = .ok (.ifCond .ne 12, 3) := by decide +kernel
theorem dX9_town_17 : decode cX9_town 17 = .ok (.sipush (-1000), 3) := by decide +kernel
theorem dX9_town_20 : decode cX9_town 20 = .ok (.aload_n 0, 1) := by decide +kernel
theorem dX9_town_21 : decode cX9_town 21 = .ok (.getfield 95, 3) := by decide +kernel
theorem dX9_town_24 : decode cX9_town 24 = .ok (.isub, 1) := by decide +kernel
theorem dX9_town_25 : decode cX9_town 25 = .ok (.istore_n 2, 1) := by decide +kernel
theorem dX9_town_26 : decode cX9_town 26 = .ok (.iinc 1 1, 3) := by decide +kernel
theorem dX9_town_29 : decode cX9_town 29 = .ok (.iload_n 2, 1) := by decide +kernel
theorem dX9_town_30 : decode cX9_town 30 = .ok (.bipush (-9), 2) := by decide +kernel
theorem dX9_town_32 : decode cX9_town 32 = .ok (.if_icmp .ne 14, 3) := by decide +kernel
theorem dX9_town_35 : decode cX9_town 35 = .ok (.aload_n 0, 1) := by decide +kernel
theorem dX9_town_36 : decode cX9_town 36 = .ok (.getfield 95, 3) := by decide +kernel
theorem dX9_town_39 : decode cX9_town 39 = .ok (.aload_n 0, 1) := by decide +kernel
theorem dX9_town_40 : decode cX9_town 40 = .ok (.getfield 91, 3) := by decide +kernel
theorem dX9_town_43 : decode cX9_town 43 = .ok (.if_icmp .lt (-33), 3) := by decide +kernel
theorem dX9_town_46 : decode cX9_town 46 = .ok (.aload_n 0, 1) := by decide +kernel
theorem dX9_town_47 : decode cX9_town 47 = .ok (.getfield 9, 3) := by decide +kernel
theorem dX9_town_50 : decode cX9_town 50 = .ok (.aload_n 0, 1) := by decide +kernel
theorem dX9_town_51 : decode cX9_town 51 = .ok (.getfield 19, 3) := by decide +kernel
theorem dX9_town_54 : decode cX9_town 54 = .ok (.invokestatic 133, 3) := by decide +kernel
theorem dX9_town_57 : decode cX9_town 57 = .ok (.aload_n 0, 1) := by decide +kernel
theorem dX9_town_58 : decode cX9_town 58 = .ok (.iconst 0, 1) := by decide +kernel
theorem dX9_town_59 : decode cX9_town 59 = .ok (.putfield 95, 3) := by decide +kernel
theorem dX9_town_62 : decode cX9_town 62 = .ok (.iload_n 2, 1) := by decide +kernel
theorem dX9_town_63 : decode cX9_town 63 = .ok (.bipush (-9), 2) := by decide +kernel
theorem dX9_town_65 : decode cX9_town 65 = .ok (.if_icmp .ne 63, 3) := by decide +kernel
theorem dX9_town_68 : decode cX9_town 68 = .ok (.aload_n 0, 1) := by decide +kernel
theorem dX9_town_69 : decode cX9_town 69 = .ok (.getfield 95, 3) := by decide +kernel
theorem dX9_town_72 : decode cX9_town 72 = .ok (.aload_n 0, 1) := by decide +kernel
theorem dX9_town_73 : decode cX9_town 73 = .ok (.getfield 91, 3) := by decide +kernel
theorem dX9_town_76 : decode cX9_town 76 = .ok (.if_icmp .ge 52, 3) := by decide +kernel
theorem dX9_town_79 : decode cX9_town 79 = .ok (.aload_n 0, 1) := by decide +kernel
theorem dX9_town_80 : decode cX9_town 80 = .ok (.getfield 95, 3) := by decide +kernel
theorem dX9_town_83 : decode cX9_town 83 = .ok (.istore_n 3, 1) := by decide +kernel
theorem dX9_town_84 : decode cX9_town 84 = .ok (.aload_n 0, 1) := by decide +kernel
theorem dX9_town_85 : decode cX9_town 85 = .ok (.invokevirtual 98, 3) := by decide +kernel
theorem dX9_town_88 : decode cX9_town 88 = .ok (.istore 4, 2) := by decide +kernel
theorem dX9_town_90 : decode cX9_town 90 = .ok (.aload_n 0, 1) := by decide +kernel
theorem dX9_town_91 : decode cX9_town 91 = .ok (.invokevirtual 130, 3) := by decide +kernel
theorem dX9_town_94 : decode cX9_town 94 = .ok (.istore 5, 2) := by decide +kernel
theorem dX9_town_96 : decode cX9_town 96 = .ok (.aload_n 0, 1) := by decide +kernel
theorem dX9_town_97 : decode cX9_town 97 = .ok (.iload 4, 2) := by decide +kernel
theorem dX9_town_99 : decode cX9_town 99 = .ok (.invokevirtual 137, 3) := by decide +kernel
theorem dX9_town_102 : decode cX9_town 102 = .ok (.ifCond .eq 6, 3) := by decide +kernel
theorem dX9_town_105 : decode cX9_town 105 = .ok (.goto (-43), 3) := by decide +kernel
theorem dX9_town_108 : decode cX9_town 108 = .ok (.sipush (-2000), 3) := by decide +kernel
theorem dX9_town_111 : decode cX9_town 111 = .ok (.iload_n 3, 1) := by decide +kernel
theorem dX9_town_112 : decode cX9_town 112 = .ok (.isub, 1) := by decide +kernel
theorem dX9_town_113 : decode cX9_town 113 = .ok (.istore_n 2, 1) := by decide +kernel
theorem dX9_town_114 : decode cX9_town 114 = .ok (.aload_n 0, 1) := by decide +kernel
theorem dX9_town_115 : decode cX9_town 115 = .ok (.getfield 19, 3) := by decide +kernel
theorem dX9_town_118 : decode cX9_town 118 = .ok (.aload_n 0, 1) := by decide +kernel
theorem dX9_town_119 : decode cX9_town 119 = .ok (.getfield 9, 3) := by decide +kernel
theorem dX9_town_122 : decode cX9_town 122 = .ok (.invokestatic 133, 3) := by decide +kernel
theorem dX9_town_125 : decode cX9_town 125 = .ok (.goto (-63), 3) := by decide +kernel
theorem dX9_town_128 : decode cX9_town 128 = .ok (.aload_n 0, 1) := by decide +kernel
theorem dX9_town_129 : decode cX9_town 129 = .ok (.iconst 0, 1) := by decide +kernel
theorem dX9_town_130 : decode cX9_town 130 = .ok (.putfield 91, 3) := by decide +kernel
theorem dX9_town_133 : decode cX9_town 133 = .ok (.iload_n 2, 1) := by decide +kernel
theorem dX9_town_134 : decode cX9_town 134 = .ok (.bipush (-9), 2) := by decide +kernel
theorem dX9_town_136 : decode cX9_town 136 = .ok (.if_icmp .ne 7, 3) := by decide +kernel
theorem dX9_town_139 : decode cX9_town 139 = .ok (.iload_n 1, 1) := by decide +kernel
theorem dX9_town_140 : decode cX9_town 140 = .ok (.goto 4, 3) := by decide +kernel
theorem dX9_town_143 : decode cX9_town 143 = .ok (.iload_n 2, 1) := by decide +kernel
theorem dX9_town_144 : decode cX9_town 144 = .ok (.ireturn, 1) := by decide +kernel
theorem dX9_person_0 : decode cX9_person 0 = .ok (.aload_n 0, 1) := by decide +kernel
theorem dX9_person_1 : decode cX9_person 1 = .ok (.iload_n 1, 1) := by decide +kernel
theorem dX9_person_2 : decode cX9_person 2 = .ok (.invokevirtual 48, 3) := by decide +kernel
theorem dX9_person_5 : decode cX9_person 5 = .ok (.ifCond .ne 9, 3) := by decide +kernel
theorem dX9_person_8 : decode cX9_person 8 = .ok (.aload_n 0, 1) := by decide +kernel
theorem dX9_person_9 : decode cX9_person 9 = .ok (.iconst (-1), 1) := by decide +kernel
theorem dX9_person_10 : decode cX9_person 10 = .ok (.invokevirtual 38, 3) := by decide +kernel
theorem dX9_person_13 : decode cX9_person 13 = .ok (.ireturn, 1) := by decide +kernel
theorem dX9_person_14 : decode cX9_person 14 = .ok (.iload_n 2, 1) := by decide +kernel
theorem dX9_person_15 : decode cX9_person 15 = .ok (.iconst 0, 1) := by decide +kernel
theorem dX9_person_16 : decode cX9_person 16 = .ok (.iconst 3, 1) := by decide +kernel
theorem dX9_person_17 : decode cX9_person 17 = .ok (.invokestatic 44, 3) := by decide +kernel
theorem dX9_person_20 : decode cX9_person 20 = .ok (.ifCond .eq 16, 3) := by decide +kernel
theorem dX9_person_23 : decode cX9_person 23 = .ok (.aload_n 0, 1) := by decide +kernel
theorem dX9_person_24 : decode cX9_person 24 = .ok (.getfield 9, 3) := by decide +kernel
theorem dX9_person_27 : decode cX9_person 27 = .ok (.iload_n 1, 1) := by decide +kernel
theorem dX9_person_28 : decode cX9_person 28 = .ok (.iload_n 2, 1) := by decide +kernel
theorem dX9_person_29 : decode cX9_person 29 = .ok (.invokestatic 52, 3) := by decide +kernel
theorem dX9_person_32 : decode cX9_person 32 = .ok (.iaload, 1) := by decide +kernel
theorem dX9_person_33 : decode cX9_person 33 = .ok (.goto 9, 3) := by decide +kernel
theorem dX9_person_36 : decode cX9_person 36 = .ok (.aload_n 0, 1) := by decide +kernel
theorem dX9_person_37 : decode cX9_person 37 = .ok (.bipush (-2), 2) := by decide +kernel
theorem dX9_person_39 : decode cX9_person 39 = .ok (.invokevirtual 38, 3) := by decide +kernel
theorem dX9_person_42 : decode cX9_person 42 = .ok (.ireturn, 1) := by decide +kernel
theorem dX9_faceIn_0 : decode cX9_faceIn 0 = .ok (.iload_n 2, 1) := by decide +kernel
theorem dX9_faceIn_1 : decode cX9_faceIn 1 = .ok (.iconst 3, 1) := by decide +kernel
theorem dX9_faceIn_2 : decode cX9_faceIn 2 = .ok (.if_icmp .ne 11, 3) := by decide +kernel
theorem dX9_faceIn_5 : decode cX9_faceIn 5 = .ok (.aload_n 0, 1) := by decide +kernel
theorem dX9_faceIn_6 : decode cX9_faceIn 6 = .ok (.iload_n 1, 1) := by decide +kernel
theorem dX9_faceIn_7 : decode cX9_faceIn 7 = .ok (.invokestatic 68, 3) := by decide +kernel
theorem dX9_faceIn_10 : decode cX9_faceIn 10 = .ok (.goto 12, 3) := by decide +kernel
theorem dX9_faceIn_13 : decode cX9_faceIn 13 = .ok (.aload_n 0, 1) := by decide +kernel
theorem dX9_faceIn_14 : decode cX9_faceIn 14 = .ok (.iload_n 1, 1) := by decide +kernel
theorem dX9_faceIn_15 : decode cX9_faceIn 15 = .ok (.iconst 4, 1) := by decide +kernel
theorem dX9_faceIn_16 : decode cX9_faceIn 16 = .ok (.iload_n 2, 1) := by decide +kernel
theorem dX9_faceIn_17 : decode cX9_faceIn 17 = .ok (.iadd, 1) := by decide +kernel
theorem dX9_faceIn_18 : decode cX9_faceIn 18 = .ok (.invokestatic 52, 3) := by decide +kernel
theorem dX9_faceIn_21 : decode cX9_faceIn 21 = .ok (.iaload, 1) := by decide +kernel
theorem dX9_faceIn_22 : decode cX9_faceIn 22 = .ok (.ireturn, 1) := by decide +kernel
theorem dX9_face_0 : decode cX9_face 0 = .ok (.aload_n 0, 1) := by decide +kernel
theorem dX9_face_1 : decode cX9_face 1 = .ok (.iload_n 1, 1) := by decide +kernel
theorem dX9_face_2 : decode cX9_face 2 = .ok (.invokevirtual 48, 3) := by decide +kernel
theorem dX9_face_5 : decode cX9_face 5 = .ok (.ifCond .ne 9, 3) := by decide +kernel
theorem dX9_face_8 : decode cX9_face 8 = .ok (.aload_n 0, 1) := by decide +kernel
theorem dX9_face_9 : decode cX9_face 9 = .ok (.iconst (-1), 1) := by decide +kernel
theorem dX9_face_10 : decode cX9_face 10 = .ok (.invokevirtual 38, 3) := by decide +kernel
theorem dX9_face_13 : decode cX9_face 13 = .ok (.ireturn, 1) := by decide +kernel
theorem dX9_face_14 : decode cX9_face 14 = .ok (.iload_n 2, 1) := by decide +kernel
theorem dX9_face_15 : decode cX9_face 15 = .ok (.iconst 0, 1) := by decide +kernel
theorem dX9_face_16 : decode cX9_face 16 = .ok (.iconst 3, 1) := by decide +kernel
theorem dX9_face_17 : decode cX9_face 17 = .ok (.invokestatic 44, 3) := by decide +kernel
theorem dX9_face_20 : decode cX9_face 20 = .ok (.ifCond .eq 15, 3) := by decide +kernel
theorem dX9_face_23 : decode cX9_face 23 = .ok (.aload_n 0, 1) := by decide +kernel
theorem dX9_face_24 : decode cX9_face 24 = .ok (.getfield 9, 3) := by decide +kernel
theorem dX9_face_27 : decode cX9_face 27 = .ok (.iload_n 1, 1) := by decide +kernel
theorem dX9_face_28 : decode cX9_face 28 = .ok (.iload_n 2, 1) := by decide +kernel
theorem dX9_face_29 : decode cX9_face 29 = .ok (.invokestatic 140, 3) := by decide +kernel
theorem dX9_face_32 : decode cX9_face 32 = .ok (.goto 9, 3) := by decide +kernel
theorem dX9_face_35 : decode cX9_face 35 = .ok (.aload_n 0, 1) := by decide +kernel
theorem dX9_face_36 : decode cX9_face 36 = .ok (.bipush (-2), 2) := by decide +kernel
theorem dX9_face_38 : decode cX9_face 38 = .ok (.invokevirtual 38, 3) := by decide +kernel
theorem dX9_face_41 : decode cX9_face 41 = .ok (.ireturn, 1) := by decide +kernel
theorem dX9_worth_0 : decode cX9_worth 0 = .ok (.aload_n 0, 1) := by decide +kernel
theorem dX9_worth_1 : decode cX9_worth 1 = .ok (.iload_n 1, 1) := by decide +kernel
theorem dX9_worth_2 : decode cX9_worth 2 = .ok (.invokevirtual 48, 3) := by decide +kernel
theorem dX9_worth_5 : decode cX9_worth 5 = .ok (.ifCond .eq 14, 3) := by decide +kernel
theorem dX9_worth_8 : decode cX9_worth 8 = .ok (.aload_n 0, 1) := by decide +kernel
theorem dX9_worth_9 : decode cX9_worth 9 = .ok (.getfield 9, 3) := by decide +kernel
theorem dX9_worth_12 : decode cX9_worth 12 = .ok (.iload_n 1, 1) := by decide +kernel
theorem dX9_worth_13 : decode cX9_worth 13 = .ok (.invokestatic 88, 3) := by decide +kernel
theorem dX9_worth_16 : decode cX9_worth 16 = .ok (.goto 8, 3) := by decide +kernel
theorem dX9_worth_19 : decode cX9_worth 19 = .ok (.aload_n 0, 1) := by decide +kernel
theorem dX9_worth_20 : decode cX9_worth 20 = .ok (.iconst (-1), 1) := by decide +kernel
theorem dX9_worth_21 : decode cX9_worth 21 = .ok (.invokevirtual 143, 3) := by decide +kernel
theorem dX9_worth_24 : decode cX9_worth 24 = .ok (.ireturn, 1) := by decide +kernel
theorem dX9_lends_0 : decode cX9_lends 0 = .ok (.aload_n 0, 1) := by decide +kernel
theorem dX9_lends_1 : decode cX9_lends 1 = .ok (.iload_n 1, 1) := by decide +kernel
theorem dX9_lends_2 : decode cX9_lends 2 = .ok (.iload_n 2, 1) := by decide +kernel
theorem dX9_lends_3 : decode cX9_lends 3 = .ok (.invokevirtual 115, 3) := by decide +kernel
theorem dX9_lends_6 : decode cX9_lends 6 = .ok (.ifCond .ne 9, 3) := by decide +kernel
theorem dX9_lends_9 : decode cX9_lends 9 = .ok (.aload_n 0, 1) := by decide +kernel
theorem dX9_lends_10 : decode cX9_lends 10 = .ok (.iconst (-1), 1) := by decide +kernel
theorem dX9_lends_11 : decode cX9_lends 11 = .ok (.invokevirtual 38, 3) := by decide +kernel
theorem dX9_lends_14 : decode cX9_lends 14 = .ok (.ireturn, 1) := by decide +kernel
theorem dX9_lends_15 : decode cX9_lends 15 = .ok (.aload_n 0, 1) := by decide +kernel
theorem dX9_lends_16 : decode cX9_lends 16 = .ok (.getfield 9, 3) := by decide +kernel
theorem dX9_lends_19 : decode cX9_lends 19 = .ok (.iload_n 1, 1) := by decide +kernel
theorem dX9_lends_20 : decode cX9_lends 20 = .ok (.iload_n 2, 1) := by decide +kernel
theorem dX9_lends_21 : decode cX9_lends 21 = .ok (.invokestatic 118, 3) := by decide +kernel
theorem dX9_lends_24 : decode cX9_lends 24 = .ok (.ifCond .ne 10, 3) := by decide +kernel
theorem dX9_lends_27 : decode cX9_lends 27 = .ok (.aload_n 0, 1) := by decide +kernel
theorem dX9_lends_28 : decode cX9_lends 28 = .ok (.bipush (-3), 2) := by decide +kernel
theorem dX9_lends_30 : decode cX9_lends 30 = .ok (.invokevirtual 38, 3) := by decide +kernel
theorem dX9_lends_33 : decode cX9_lends 33 = .ok (.ireturn, 1) := by decide +kernel
theorem dX9_lends_34 : decode cX9_lends 34 = .ok (.aload_n 0, 1) := by decide +kernel
theorem dX9_lends_35 : decode cX9_lends 35 = .ok (.getfield 9, 3) := by decide +kernel
theorem dX9_lends_38 : decode cX9_lends 38 = .ok (.iload_n 1, 1) := by decide +kernel
theorem dX9_lends_39 : decode cX9_lends 39 = .ok (.iload_n 2, 1) := by decide +kernel
theorem dX9_lends_40 : decode cX9_lends 40 = .ok (.invokestatic 122, 3) := by decide +kernel
theorem dX9_lends_43 : decode cX9_lends 43 = .ok (.aload_n 0, 1) := by decide +kernel
theorem dX9_lends_44 : decode cX9_lends 44 = .ok (.getfield 9, 3) := by decide +kernel
theorem dX9_lends_47 : decode cX9_lends 47 = .ok (.invokestatic 146, 3) := by decide +kernel
theorem dX9_lends_50 : decode cX9_lends 50 = .ok (.ireturn, 1) := by decide +kernel
theorem dX9_back_0 : decode cX9_back 0 = .ok (.aload_n 0, 1) := by decide +kernel
theorem dX9_back_1 : decode cX9_back 1 = .ok (.iload_n 1, 1) := by decide +kernel
theorem dX9_back_2 : decode cX9_back 2 = .ok (.invokevirtual 48, 3) := by decide +kernel
theorem dX9_back_5 : decode cX9_back 5 = .ok (.ifCond .ne 9, 3) := by decide +kernel
theorem dX9_back_8 : decode cX9_back 8 = .ok (.aload_n 0, 1) := by decide +kernel
theorem dX9_back_9 : decode cX9_back 9 = .ok (.iconst (-1), 1) := by decide +kernel
theorem dX9_back_10 : decode cX9_back 10 = .ok (.invokevirtual 38, 3) := by decide +kernel
theorem dX9_back_13 : decode cX9_back 13 = .ok (.ireturn, 1) := by decide +kernel
theorem dX9_back_14 : decode cX9_back 14 = .ok (.aload_n 0, 1) := by decide +kernel
theorem dX9_back_15 : decode cX9_back 15 = .ok (.getfield 9, 3) := by decide +kernel
theorem dX9_back_18 : decode cX9_back 18 = .ok (.iload_n 1, 1) := by decide +kernel
theorem dX9_back_19 : decode cX9_back 19 = .ok (.bipush 6, 2) := by decide +kernel
theorem dX9_back_21 : decode cX9_back 21 = .ok (.invokestatic 52, 3) := by decide +kernel
theorem dX9_back_24 : decode cX9_back 24 = .ok (.iaload, 1) := by decide +kernel
theorem dX9_back_25 : decode cX9_back 25 = .ok (.ifCond .ne 12, 3) := by decide +kernel
theorem dX9_back_28 : decode cX9_back 28 = .ok (.aload_n 0, 1) := by decide +kernel
theorem dX9_back_29 : decode cX9_back 29 = .ok (.bipush (-3), 2) := by decide +kernel
theorem dX9_back_31 : decode cX9_back 31 = .ok (.invokevirtual 38, 3) := by decide +kernel
theorem dX9_back_34 : decode cX9_back 34 = .ok (.goto 11, 3) := by decide +kernel
theorem dX9_back_37 : decode cX9_back 37 = .ok (.aload_n 0, 1) := by decide +kernel
theorem dX9_back_38 : decode cX9_back 38 = .ok (.getfield 9, 3) := by decide +kernel
theorem dX9_back_41 : decode cX9_back 41 = .ok (.iload_n 1, 1) := by decide +kernel
theorem dX9_back_42 : decode cX9_back 42 = .ok (.invokestatic 81, 3) := by decide +kernel
theorem dX9_back_45 : decode cX9_back 45 = .ok (.ireturn, 1) := by decide +kernel
theorem dX9_learns_0 : decode cX9_learns 0 = .ok (.aload_n 0, 1) := by decide +kernel
theorem dX9_learns_1 : decode cX9_learns 1 = .ok (.iload_n 1, 1) := by decide +kernel
theorem dX9_learns_2 : decode cX9_learns 2 = .ok (.invokevirtual 48, 3) := by decide +kernel
theorem dX9_learns_5 : decode cX9_learns 5 = .ok (.ifCond .eq 11, 3) := by decide +kernel
theorem dX9_learns_8 : decode cX9_learns 8 = .ok (.aload_n 0, 1) := by decide +kernel
theorem dX9_learns_9 : decode cX9_learns 9 = .ok (.iload_n 2, 1) := by decide +kernel
theorem dX9_learns_10 : decode cX9_learns 10 = .ok (.invokevirtual 48, 3) := by decide +kernel
theorem dX9_learns_13 : decode cX9_learns 13 = .ok (.ifCond .ne 9, 3) := by decide +kernel
theorem dX9_learns_16 : decode cX9_learns 16 = .ok (.aload_n 0, 1) := by decide +kernel
theorem dX9_learns_17 : decode cX9_learns 17 = .ok (.iconst (-1), 1) := by decide +kernel
theorem dX9_learns_18 : decode cX9_learns 18 = .ok (.invokevirtual 38, 3) := by decide +kernel
theorem dX9_learns_21 : decode cX9_learns 21 = .ok (.ireturn, 1) := by decide +kernel
theorem dX9_learns_22 : decode cX9_learns 22 = .ok (.aload_n 0, 1) := by decide +kernel
theorem dX9_learns_23 : decode cX9_learns 23 = .ok (.getfield 9, 3) := by decide +kernel
theorem dX9_learns_26 : decode cX9_learns 26 = .ok (.iload_n 1, 1) := by decide +kernel
theorem dX9_learns_27 : decode cX9_learns 27 = .ok (.iconst 2, 1) := by decide +kernel
theorem dX9_learns_28 : decode cX9_learns 28 = .ok (.invokestatic 52, 3) := by decide +kernel
theorem dX9_learns_31 : decode cX9_learns 31 = .ok (.dup2, 1) := by decide +kernel
theorem dX9_learns_32 : decode cX9_learns 32 = .ok (.iaload, 1) := by decide +kernel
theorem dX9_learns_33 : decode cX9_learns 33 = .ok (.iconst 1, 1) := by decide +kernel
theorem dX9_learns_34 : decode cX9_learns 34 = .ok (.iload_n 2, 1) := by decide +kernel
theorem dX9_learns_35 : decode cX9_learns 35 = .ok (.ishl, 1) := by decide +kernel
theorem dX9_learns_36 : decode cX9_learns 36 = .ok (.ixor, 1) := by decide +kernel
theorem dX9_learns_37 : decode cX9_learns 37 = .ok (.iastore, 1) := by decide +kernel
theorem dX9_learns_38 : decode cX9_learns 38 = .ok (.aload_n 0, 1) := by decide +kernel
theorem dX9_learns_39 : decode cX9_learns 39 = .ok (.getfield 9, 3) := by decide +kernel
theorem dX9_learns_42 : decode cX9_learns 42 = .ok (.iload_n 1, 1) := by decide +kernel
theorem dX9_learns_43 : decode cX9_learns 43 = .ok (.iconst 2, 1) := by decide +kernel
theorem dX9_learns_44 : decode cX9_learns 44 = .ok (.invokestatic 52, 3) := by decide +kernel
theorem dX9_learns_47 : decode cX9_learns 47 = .ok (.iaload, 1) := by decide +kernel
theorem dX9_learns_48 : decode cX9_learns 48 = .ok (.iload_n 2, 1) := by decide +kernel
theorem dX9_learns_49 : decode cX9_learns 49 = .ok (.ishr, 1) := by decide +kernel
theorem dX9_learns_50 : decode cX9_learns 50 = .ok (.iconst 1, 1) := by decide +kernel
theorem dX9_learns_51 : decode cX9_learns 51 = .ok (.iand, 1) := by decide +kernel
theorem dX9_learns_52 : decode cX9_learns 52 = .ok (.ireturn, 1) := by decide +kernel
theorem dX9_wrongBy_0 : decode cX9_wrongBy 0 = .ok (.iload_n 0, 1) := by decide +kernel
theorem dX9_wrongBy_1 : decode cX9_wrongBy 1 = .ok (.ifCond .ge 8, 3) := by decide +kernel
theorem dX9_wrongBy_4 : decode cX9_wrongBy 4 = .ok (.bipush (-4), 2) := by decide +kernel
theorem dX9_wrongBy_6 : decode cX9_wrongBy 6 = .ok (.goto 14, 3) := by decide +kernel
theorem dX9_wrongBy_9 : decode cX9_wrongBy 9 = .ok (.iload_n 0, 1) := by decide +kernel
theorem dX9_wrongBy_10 : decode cX9_wrongBy 10 = .ok (.iload_n 1, 1) := by decide +kernel
theorem dX9_wrongBy_11 : decode cX9_wrongBy 11 = .ok (.if_icmp .le 8, 3) := by decide +kernel
theorem dX9_wrongBy_14 : decode cX9_wrongBy 14 = .ok (.bipush (-6), 2) := by decide +kernel
theorem dX9_wrongBy_16 : decode cX9_wrongBy 16 = .ok (.goto 4, 3) := by decide +kernel
theorem dX9_wrongBy_19 : decode cX9_wrongBy 19 = .ok (.iconst 0, 1) := by decide +kernel
theorem dX9_wrongBy_20 : decode cX9_wrongBy 20 = .ok (.ireturn, 1) := by decide +kernel
theorem dX9_becomes_0 : decode cX9_becomes 0 = .ok (.aload_n 0, 1) := by decide +kernel
theorem dX9_becomes_1 : decode cX9_becomes 1 = .ok (.iload_n 1, 1) := by decide +kernel
theorem dX9_becomes_2 : decode cX9_becomes 2 = .ok (.invokevirtual 48, 3) := by decide +kernel
theorem dX9_becomes_5 : decode cX9_becomes 5 = .ok (.ifCond .ne 7, 3) := by decide +kernel
theorem dX9_becomes_8 : decode cX9_becomes 8 = .ok (.iconst (-1), 1) := by decide +kernel
theorem dX9_becomes_9 : decode cX9_becomes 9 = .ok (.goto 23, 3) := by decide +kernel
theorem dX9_becomes_12 : decode cX9_becomes 12 = .ok (.iload_n 2, 1) := by decide +kernel
theorem dX9_becomes_13 : decode cX9_becomes 13 = .ok (.iconst 0, 1) := by decide +kernel
theorem dX9_becomes_14 : decode cX9_becomes 14 = .ok (.iconst 1, 1) := by decide +kernel
theorem dX9_becomes_15 : decode cX9_becomes 15 = .ok (.invokestatic 44, 3) := by decide +kernel
theorem dX9_becomes_18 : decode cX9_becomes 18 = .ok (.ifCond .eq 12, 3) := by decide +kernel
theorem dX9_becomes_21 : decode cX9_becomes 21 = .ok (.iload_n 3, 1) := by decide +kernel
theorem dX9_becomes_22 : decode cX9_becomes 22 = .ok (.bipush 99, 2) := by decide +kernel
theorem dX9_becomes_24 : decode cX9_becomes 24 = .ok (.invokestatic 150, 3) := by decide +kernel
theorem dX9_becomes_27 : decode cX9_becomes 27 = .ok (.goto 5, 3) := by decide +kernel
theorem dX9_becomes_30 : decode cX9_becomes 30 = .ok (.bipush (-2), 2) := by decide +kernel
theorem dX9_becomes_32 : decode cX9_becomes 32 = .ok (.istore 4, 2) := by decide +kernel
theorem dX9_becomes_34 : decode cX9_becomes 34 = .ok (.iload 4, 2) := by decide +kernel
theorem dX9_becomes_36 : decode cX9_becomes 36 = .ok (.ifCond .eq 10, 3) := by decide +kernel
theorem dX9_becomes_39 : decode cX9_becomes 39 = .ok (.aload_n 0, 1) := by decide +kernel
theorem dX9_becomes_40 : decode cX9_becomes 40 = .ok (.iload 4, 2) := by decide +kernel
theorem dX9_becomes_42 : decode cX9_becomes 42 = .ok (.invokevirtual 38, 3) := by decide +kernel
theorem dX9_becomes_45 : decode cX9_becomes 45 = .ok (.ireturn, 1) := by decide +kernel
theorem dX9_becomes_46 : decode cX9_becomes 46 = .ok (.aload_n 0, 1) := by decide +kernel
theorem dX9_becomes_47 : decode cX9_becomes 47 = .ok (.getfield 9, 3) := by decide +kernel
theorem dX9_becomes_50 : decode cX9_becomes 50 = .ok (.iload_n 1, 1) := by decide +kernel
theorem dX9_becomes_51 : decode cX9_becomes 51 = .ok (.iconst 4, 1) := by decide +kernel
theorem dX9_becomes_52 : decode cX9_becomes 52 = .ok (.iload_n 2, 1) := by decide +kernel
theorem dX9_becomes_53 : decode cX9_becomes 53 = .ok (.iadd, 1) := by decide +kernel
theorem dX9_becomes_54 : decode cX9_becomes 54 = .ok (.invokestatic 52, 3) := by decide +kernel
theorem dX9_becomes_57 : decode cX9_becomes 57 = .ok (.iaload, 1) := by decide +kernel
theorem dX9_becomes_58 : decode cX9_becomes 58 = .ok (.istore 5, 2) := by decide +kernel
theorem dX9_becomes_60 : decode cX9_becomes 60 = .ok (.aload_n 0, 1) := by decide +kernel
theorem dX9_becomes_61 : decode cX9_becomes 61 = .ok (.getfield 9, 3) := by decide +kernel
theorem dX9_becomes_64 : decode cX9_becomes 64 = .ok (.iload_n 1, 1) := by decide +kernel
theorem dX9_becomes_65 : decode cX9_becomes 65 = .ok (.iconst 4, 1) := by decide +kernel
theorem dX9_becomes_66 : decode cX9_becomes 66 = .ok (.iload_n 2, 1) := by decide +kernel
theorem dX9_becomes_67 : decode cX9_becomes 67 = .ok (.iadd, 1) := by decide +kernel
theorem dX9_becomes_68 : decode cX9_becomes 68 = .ok (.invokestatic 52, 3) := by decide +kernel
theorem dX9_becomes_71 : decode cX9_becomes 71 = .ok (.iload_n 3, 1) := by decide +kernel
theorem dX9_becomes_72 : decode cX9_becomes 72 = .ok (.iastore, 1) := by decide +kernel
theorem dX9_becomes_73 : decode cX9_becomes 73 = .ok (.iload 5, 2) := by decide +kernel
theorem dX9_becomes_75 : decode cX9_becomes 75 = .ok (.ireturn, 1) := by decide +kernel
theorem dX9_turn_0 : decode cX9_turn 0 = .ok (.aload_n 0, 1) := by decide +kernel
theorem dX9_turn_1 : decode cX9_turn 1 = .ok (.iload_n 1, 1) := by decide +kernel
theorem dX9_turn_2 : decode cX9_turn 2 = .ok (.invokevirtual 48, 3) := by decide +kernel
theorem dX9_turn_5 : decode cX9_turn 5 = .ok (.ifCond .ne 7, 3) := by decide +kernel
theorem dX9_turn_8 : decode cX9_turn 8 = .ok (.iconst (-1), 1) := by decide +kernel
theorem dX9_turn_9 : decode cX9_turn 9 = .ok (.goto 23, 3) := by decide +kernel
theorem dX9_turn_12 : decode cX9_turn 12 = .ok (.iload_n 2, 1) := by decide +kernel
theorem dX9_turn_13 : decode cX9_turn 13 = .ok (.iconst 0, 1) := by decide +kernel
theorem dX9_turn_14 : decode cX9_turn 14 = .ok (.iconst 5, 1) := by decide +kernel
theorem dX9_turn_15 : decode cX9_turn 15 = .ok (.invokestatic 44, 3) := by decide +kernel
theorem dX9_turn_18 : decode cX9_turn 18 = .ok (.ifCond .ne 8, 3) := by decide +kernel
theorem dX9_turn_21 : decode cX9_turn 21 = .ok (.bipush (-2), 2) := by decide +kernel
theorem dX9_turn_23 : decode cX9_turn 23 = .ok (.goto 9, 3) := by decide +kernel
theorem dX9_turn_26 : decode cX9_turn 26 = .ok (.iload_n 3, 1) := by decide +kernel
theorem dX9_turn_27 : decode cX9_turn 27 = .ok (.bipush 9, 2) := by decide +kernel
theorem dX9_turn_29 : decode cX9_turn 29 = .ok (.invokestatic 150, 3) := by decide +kernel
theorem dX9_turn_32 : decode cX9_turn 32 = .ok (.istore 4, 2) := by decide +kernel
theorem dX9_turn_34 : decode cX9_turn 34 = .ok (.iload 4, 2) := by decide +kernel
theorem dX9_turn_36 : decode cX9_turn 36 = .ok (.ifCond .eq 10, 3) := by decide +kernel
theorem dX9_turn_39 : decode cX9_turn 39 = .ok (.aload_n 0, 1) := by decide +kernel
theorem dX9_turn_40 : decode cX9_turn 40 = .ok (.iload 4, 2) := by decide +kernel
theorem dX9_turn_42 : decode cX9_turn 42 = .ok (.invokevirtual 38, 3) := by decide +kernel
theorem dX9_turn_45 : decode cX9_turn 45 = .ok (.ireturn, 1) := by decide +kernel
theorem dX9_turn_46 : decode cX9_turn 46 = .ok (.bipush 10, 2) := by decide +kernel
theorem dX9_turn_48 : decode cX9_turn 48 = .ok (.aload_n 0, 1) := by decide +kernel
theorem dX9_turn_49 : decode cX9_turn 49 = .ok (.getfield 9, 3) := by decide +kernel
theorem dX9_turn_52 : decode cX9_turn 52 = .ok (.iload_n 1, 1) := by decide +kernel
theorem dX9_turn_53 : decode cX9_turn 53 = .ok (.iconst 0, 1) := by decide +kernel
theorem dX9_turn_54 : decode cX9_turn 54 = .ok (.invokestatic 52, 3) := by decide +kernel
theorem dX9_turn_57 : decode cX9_turn 57 = .ok (.iaload, 1) := by decide +kernel
theorem dX9_turn_58 : decode cX9_turn 58 = .ok (.imul, 1) := by decide +kernel
theorem dX9_turn_59 : decode cX9_turn 59 = .ok (.aload_n 0, 1) := by decide +kernel
theorem dX9_turn_60 : decode cX9_turn 60 = .ok (.getfield 9, 3) := by decide +kernel
theorem dX9_turn_63 : decode cX9_turn 63 = .ok (.iload_n 1, 1) := by decide +kernel
theorem dX9_turn_64 : decode cX9_turn 64 = .ok (.iconst 1, 1) := by decide +kernel
theorem dX9_turn_65 : decode cX9_turn 65 = .ok (.invokestatic 52, 3) := by decide +kernel
theorem dX9_turn_68 : decode cX9_turn 68 = .ok (.iaload, 1) := by decide +kernel
theorem dX9_turn_69 : decode cX9_turn 69 = .ok (.iadd, 1) := by decide +kernel
theorem dX9_turn_70 : decode cX9_turn 70 = .ok (.istore 5, 2) := by decide +kernel
theorem dX9_turn_72 : decode cX9_turn 72 = .ok (.aload_n 0, 1) := by decide +kernel
theorem dX9_turn_73 : decode cX9_turn 73 = .ok (.getfield 9, 3) := by decide +kernel
theorem dX9_turn_76 : decode cX9_turn 76 = .ok (.iload_n 1, 1) := by decide +kernel
theorem dX9_turn_77 : decode cX9_turn 77 = .ok (.iconst 0, 1) := by decide +kernel
theorem dX9_turn_78 : decode cX9_turn 78 = .ok (.invokestatic 52, 3) := by decide +kernel
theorem dX9_turn_81 : decode cX9_turn 81 = .ok (.iload_n 2, 1) := by decide +kernel
theorem dX9_turn_82 : decode cX9_turn 82 = .ok (.iastore, 1) := by decide +kernel
theorem dX9_turn_83 : decode cX9_turn 83 = .ok (.aload_n 0, 1) := by decide +kernel
theorem dX9_turn_84 : decode cX9_turn 84 = .ok (.getfield 9, 3) := by decide +kernel
theorem dX9_turn_87 : decode cX9_turn 87 = .ok (.iload_n 1, 1) := by decide +kernel
theorem dX9_turn_88 : decode cX9_turn 88 = .ok (.iconst 1, 1) := by decide +kernel
theorem dX9_turn_89 : decode cX9_turn 89 = .ok (.invokestatic 52, 3) := by decide +kernel
theorem dX9_turn_92 : decode cX9_turn 92 = .ok (.iload_n 3, 1) := by decide +kernel
theorem dX9_turn_93 : decode cX9_turn 93 = .ok (.iastore, 1) := by decide +kernel
theorem dX9_turn_94 : decode cX9_turn 94 = .ok (.iload 5, 2) := by decide +kernel
theorem dX9_turn_96 : decode cX9_turn 96 = .ok (.ireturn, 1) := by decide +kernel
theorem dX9_months_0 : decode cX9_months 0 = .ok (.iload_n 1, 1) := by decide +kernel
theorem dX9_months_1 : decode cX9_months 1 = .ok (.iconst 1, 1) := by decide +kernel
theorem dX9_months_2 : decode cX9_months 2 = .ok (.if_icmp .ge 10, 3) := by decide +kernel
theorem dX9_months_5 : decode cX9_months 5 = .ok (.aload_n 0, 1) := by decide +kernel
theorem dX9_months_6 : decode cX9_months 6 = .ok (.bipush (-4), 2) := by decide +kernel
theorem dX9_months_8 : decode cX9_months 8 = .ok (.invokevirtual 38, 3) := by decide +kernel
theorem dX9_months_11 : decode cX9_months 11 = .ok (.ireturn, 1) := by decide +kernel
theorem dX9_months_12 : decode cX9_months 12 = .ok (.iload_n 1, 1) := by decide +kernel
theorem dX9_months_13 : decode cX9_months 13 = .ok (.bipush 60, 2) := by decide +kernel
theorem dX9_months_15 : decode cX9_months 15 = .ok (.if_icmp .gt 17, 3) := by decide +kernel
theorem dX9_months_18 : decode cX9_months 18 = .ok (.aload_n 0, 1) := by decide +kernel
theorem dX9_months_19 : decode cX9_months 19 = .ok (.getfield 9, 3) := by decide +kernel
theorem dX9_months_22 : decode cX9_months 22 = .ok (.iconst 1, 1) := by decide +kernel
theorem dX9_months_23 : decode cX9_months 23 = .ok (.iaload, 1) := by decide +kernel
theorem dX9_months_24 : decode cX9_months 24 = .ok (.iload_n 1, 1) := by decide +kernel
theorem dX9_months_25 : decode cX9_months 25 = .ok (.iadd, 1) := by decide +kernel
theorem dX9_months_26 : decode cX9_months 26 = .ok (.sipush 999, 3) := by decide +kernel
theorem dX9_months_29 : decode cX9_months 29 = .ok (.if_icmp .le 10, 3) := by decide +kernel
theorem dX9_months_32 : decode cX9_months 32 = .ok (.aload_n 0, 1) := by decide +kernel
theorem dX9_months_33 : decode cX9_months 33 = .ok (.bipush (-6), 2) := by decide +kernel
theorem dX9_months_35 : decode cX9_months 35 = .ok (.invokevirtual 38, 3) := by decide +kernel
theorem dX9_months_38 : decode cX9_months 38 = .ok (.ireturn, 1) := by decide +kernel
theorem dX9_months_39 : decode cX9_months 39 = .ok (.aload_n 0, 1) := by decide +kernel
theorem dX9_months_40 : decode cX9_months 40 = .ok (.getfield 9, 3) := by decide +kernel
theorem dX9_months_43 : decode cX9_months 43 = .ok (.iload_n 1, 1) := by decide +kernel
theorem dX9_months_44 : decode cX9_months 44 = .ok (.invokestatic 126, 3) := by decide +kernel
theorem dX9_months_47 : decode cX9_months 47 = .ok (.aload_n 0, 1) := by decide +kernel
theorem dX9_months_48 : decode cX9_months 48 = .ok (.getfield 9, 3) := by decide +kernel
theorem dX9_months_51 : decode cX9_months 51 = .ok (.invokestatic 146, 3) := by decide +kernel
theorem dX9_months_54 : decode cX9_months 54 = .ok (.ireturn, 1) := by decide +kernel
theorem dX9_faceThen_0 : decode cX9_faceThen 0 = .ok (.aload_n 0, 1) := by decide +kernel
theorem dX9_faceThen_1 : decode cX9_faceThen 1 = .ok (.iload_n 1, 1) := by decide +kernel
theorem dX9_faceThen_2 : decode cX9_faceThen 2 = .ok (.invokevirtual 48, 3) := by decide +kernel
theorem dX9_faceThen_5 : decode cX9_faceThen 5 = .ok (.ifCond .eq 12, 3) := by decide +kernel
theorem dX9_faceThen_8 : decode cX9_faceThen 8 = .ok (.iload_n 2, 1) := by decide +kernel
theorem dX9_faceThen_9 : decode cX9_faceThen 9 = .ok (.bipush 60, 2) := by decide +kernel
theorem dX9_faceThen_11 : decode cX9_faceThen 11 = .ok (.invokestatic 150, 3) := by decide +kernel
theorem dX9_faceThen_14 : decode cX9_faceThen 14 = .ok (.goto 4, 3) := by decide +kernel
theorem dX9_faceThen_17 : decode cX9_faceThen 17 = .ok (.iconst (-1), 1) := by decide +kernel
theorem dX9_faceThen_18 : decode cX9_faceThen 18 = .ok (.istore 4, 2) := by decide +kernel
theorem dX9_faceThen_20 : decode cX9_faceThen 20 = .ok (.iload 4, 2) := by decide +kernel
theorem dX9_faceThen_22 : decode cX9_faceThen 22 = .ok (.ifCond .ne 16, 3) := by decide +kernel
theorem dX9_faceThen_25 : decode cX9_faceThen 25 = .ok (.iload_n 3, 1) := by decide +kernel
theorem dX9_faceThen_26 : decode cX9_faceThen 26 = .ok (.iconst 0, 1) := by decide +kernel
theorem dX9_faceThen_27 : decode cX9_faceThen 27 = .ok (.iconst 3, 1) := by decide +kernel
theorem dX9_faceThen_28 : decode cX9_faceThen 28 = .ok (.invokestatic 44, 3) := by decide +kernel
theorem dX9_faceThen_31 : decode cX9_faceThen 31 = .ok (.ifCond .ne 7, 3) := by decide +kernel
theorem dX9_faceThen_34 : decode cX9_faceThen 34 = .ok (.bipush (-2), 2) := by decide +kernel
theorem dX9_faceThen_36 : decode cX9_faceThen 36 = .ok (.istore 4, 2) := by decide +kernel
theorem dX9_faceThen_38 : decode cX9_faceThen 38 = .ok (.iload 4, 2) := by decide +kernel
theorem dX9_faceThen_40 : decode cX9_faceThen 40 = .ok (.ifCond .eq 10, 3) := by decide +kernel
theorem dX9_faceThen_43 : decode cX9_faceThen 43 = .ok (.aload_n 0, 1) := by decide +kernel
theorem dX9_faceThen_44 : decode cX9_faceThen 44 = .ok (.iload 4, 2) := by decide +kernel
theorem dX9_faceThen_46 : decode cX9_faceThen 46 = .ok (.invokevirtual 38, 3) := by decide +kernel
theorem dX9_faceThen_49 : decode cX9_faceThen 49 = .ok (.ireturn, 1) := by decide +kernel
theorem dX9_faceThen_50 : decode cX9_faceThen 50 = .ok (.aload_n 0, 1) := by decide +kernel
theorem dX9_faceThen_51 : decode cX9_faceThen 51 = .ok (.getfield 9, 3) := by decide +kernel
theorem dX9_faceThen_54 : decode cX9_faceThen 54 = .ok (.aload_n 0, 1) := by decide +kernel
theorem dX9_faceThen_55 : decode cX9_faceThen 55 = .ok (.getfield 13, 3) := by decide +kernel
theorem dX9_faceThen_58 : decode cX9_faceThen 58 = .ok (.invokestatic 133, 3) := by decide +kernel
theorem dX9_faceThen_61 : decode cX9_faceThen 61 = .ok (.aload_n 0, 1) := by decide +kernel
theorem dX9_faceThen_62 : decode cX9_faceThen 62 = .ok (.getfield 13, 3) := by decide +kernel
theorem dX9_faceThen_65 : decode cX9_faceThen 65 = .ok (.iload_n 2, 1) := by decide +kernel
theorem dX9_faceThen_66 : decode cX9_faceThen 66 = .ok (.invokestatic 126, 3) := by decide +kernel
theorem dX9_faceThen_69 : decode cX9_faceThen 69 = .ok (.aload_n 0, 1) := by decide +kernel
theorem dX9_faceThen_70 : decode cX9_faceThen 70 = .ok (.getfield 13, 3) := by decide +kernel
theorem dX9_faceThen_73 : decode cX9_faceThen 73 = .ok (.iload_n 1, 1) := by decide +kernel
theorem dX9_faceThen_74 : decode cX9_faceThen 74 = .ok (.iload_n 3, 1) := by decide +kernel
theorem dX9_faceThen_75 : decode cX9_faceThen 75 = .ok (.invokestatic 140, 3) := by decide +kernel
theorem dX9_faceThen_78 : decode cX9_faceThen 78 = .ok (.ireturn, 1) := by decide +kernel
theorem dX9_wornThen_0 : decode cX9_wornThen 0 = .ok (.aload_n 0, 1) := by decide +kernel
theorem dX9_wornThen_1 : decode cX9_wornThen 1 = .ok (.iload_n 1, 1) := by decide +kernel
theorem dX9_wornThen_2 : decode cX9_wornThen 2 = .ok (.invokevirtual 48, 3) := by decide +kernel
theorem dX9_wornThen_5 : decode cX9_wornThen 5 = .ok (.ifCond .eq 12, 3) := by decide +kernel
theorem dX9_wornThen_8 : decode cX9_wornThen 8 = .ok (.iload_n 2, 1) := by decide +kernel
theorem dX9_wornThen_9 : decode cX9_wornThen 9 = .ok (.bipush 60, 2) := by decide +kernel
theorem dX9_wornThen_11 : decode cX9_wornThen 11 = .ok (.invokestatic 150, 3) := by decide +kernel
theorem dX9_wornThen_14 : decode cX9_wornThen 14 = .ok (.goto 4, 3) := by decide +kernel
theorem dX9_wornThen_17 : decode cX9_wornThen 17 = .ok (.iconst (-1), 1) := by decide +kernel
theorem dX9_wornThen_18 : decode cX9_wornThen 18 = .ok (.istore_n 3, 1) := by decide +kernel
theorem dX9_wornThen_19 : decode cX9_wornThen 19 = .ok (.iload_n 3, 1) := by decide +kernel
theorem dX9_wornThen_20 : decode cX9_wornThen 20 = .ok (.ifCond .eq 9, 3) := by decide +kernel
theorem dX9_wornThen_23 : decode cX9_wornThen 23 = .ok (.aload_n 0, 1) := by decide +kernel
theorem dX9_wornThen_24 : decode cX9_wornThen 24 = .ok (.iload_n 3, 1) := by decide +kernel
theorem dX9_wornThen_25 : decode cX9_wornThen 25 = .ok (.invokevirtual 38, 3) := by decide +kernel
theorem dX9_wornThen_28 : decode cX9_wornThen 28 = .ok (.ireturn, 1) := by decide +kernel
theorem dX9_wornThen_29 : decode cX9_wornThen 29 = .ok (.aload_n 0, 1) := by decide +kernel
theorem dX9_wornThen_30 : decode cX9_wornThen 30 = .ok (.getfield 9, 3) := by decide +kernel
theorem dX9_wornThen_33 : decode cX9_wornThen 33 = .ok (.aload_n 0, 1) := by decide +kernel
theorem dX9_wornThen_34 : decode cX9_wornThen 34 = .ok (.getfield 13, 3) := by decide +kernel
theorem dX9_wornThen_37 : decode cX9_wornThen 37 = .ok (.invokestatic 133, 3) := by decide +kernel
theorem dX9_wornThen_40 : decode cX9_wornThen 40 = .ok (.aload_n 0, 1) := by decide +kernel
theorem dX9_wornThen_41 : decode cX9_wornThen 41 = .ok (.getfield 13, 3) := by decide +kernel
theorem dX9_wornThen_44 : decode cX9_wornThen 44 = .ok (.iload_n 2, 1) := by decide +kernel
theorem dX9_wornThen_45 : decode cX9_wornThen 45 = .ok (.invokestatic 126, 3) := by decide +kernel
theorem dX9_wornThen_48 : decode cX9_wornThen 48 = .ok (.aload_n 0, 1) := by decide +kernel
theorem dX9_wornThen_49 : decode cX9_wornThen 49 = .ok (.getfield 13, 3) := by decide +kernel
theorem dX9_wornThen_52 : decode cX9_wornThen 52 = .ok (.iload_n 1, 1) := by decide +kernel
theorem dX9_wornThen_53 : decode cX9_wornThen 53 = .ok (.iconst 3, 1) := by decide +kernel
theorem dX9_wornThen_54 : decode cX9_wornThen 54 = .ok (.invokestatic 52, 3) := by decide +kernel
theorem dX9_wornThen_57 : decode cX9_wornThen 57 = .ok (.iaload, 1) := by decide +kernel
theorem dX9_wornThen_58 : decode cX9_wornThen 58 = .ok (.ireturn, 1) := by decide +kernel
theorem dX9_areHome_0 : decode cX9_areHome 0 = .ok (.iconst 0, 1) := by decide +kernel
theorem dX9_areHome_1 : decode cX9_areHome 1 = .ok (.istore_n 1, 1) := by decide +kernel
theorem dX9_areHome_2 : decode cX9_areHome 2 = .ok (.iload_n 1, 1) := by decide +kernel
theorem dX9_areHome_3 : decode cX9_areHome 3 = .ok (.aload_n 0, 1) := by decide +kernel
theorem dX9_areHome_4 : decode cX9_areHome 4 = .ok (.iconst 0, 1) := by decide +kernel
theorem dX9_areHome_5 : decode cX9_areHome 5 = .ok (.iaload, 1) := by decide +kernel
theorem dX9_areHome_6 : decode cX9_areHome 6 = .ok (.if_icmp .ge 19, 3) := by decide +kernel
theorem dX9_areHome_9 : decode cX9_areHome 9 = .ok (.aload_n 0, 1) := by decide +kernel
theorem dX9_areHome_10 : decode cX9_areHome 10 = .ok (.iload_n 1, 1) := by decide +kernel
theorem dX9_areHome_11 : decode cX9_areHome 11 = .ok (.invokestatic 64, 3) := by decide +kernel
theorem dX9_areHome_14 : decode cX9_areHome 14 = .ok (.ifCond .ne 5, 3) := by decide +kernel
theorem dX9_areHome_17 : decode cX9_areHome 17 = .ok (.iconst 0, 1) := by decide +kernel
theorem dX9_areHome_18 : decode cX9_areHome 18 = .ok (.ireturn, 1) := by decide +kernel
theorem dX9_areHome_19 : decode cX9_areHome 19 = .ok (.iinc 1 1, 3) := by decide +kernel
theorem dX9_areHome_22 : decode cX9_areHome 22 = .ok (.goto (-20), 3) := by decide +kernel
theorem dX9_areHome_25 : decode cX9_areHome 25 = .ok (.iconst 1, 1) := by decide +kernel
theorem dX9_areHome_26 : decode cX9_areHome 26 = .ok (.ireturn, 1) := by decide +kernel
theorem dX9_first_0 : decode cX9_first 0 = .ok (.iload_n 1, 1) := by decide +kernel
theorem dX9_first_1 : decode cX9_first 1 = .ok (.iconst 0, 1) := by decide +kernel
theorem dX9_first_2 : decode cX9_first 2 = .ok (.iconst 2, 1) := by decide +kernel
theorem dX9_first_3 : decode cX9_first 3 = .ok (.invokestatic 44, 3) := by decide +kernel
theorem dX9_first_6 : decode cX9_first 6 = .ok (.ifCond .ne 10, 3) := by decide +kernel
theorem dX9_first_9 : decode cX9_first 9 = .ok (.aload_n 0, 1) := by decide +kernel
theorem dX9_first_10 : decode cX9_first 10 = .ok (.bipush (-2), 2) := by decide +kernel
theorem dX9_first_12 : decode cX9_first 12 = .ok (.invokevirtual 38, 3) := by decide +kernel
theorem dX9_first_15 : decode cX9_first 15 = .ok (.ireturn, 1) := by decide +kernel
theorem dX9_first_16 : decode cX9_first 16 = .ok (.aload_n 0, 1) := by decide +kernel
theorem dX9_first_17 : decode cX9_first 17 = .ok (.getfield 9, 3) := by decide +kernel
theorem dX9_first_20 : decode cX9_first 20 = .ok (.aload_n 0, 1) := by decide +kernel
theorem dX9_first_21 : decode cX9_first 21 = .ok (.getfield 13, 3) := by decide +kernel
theorem dX9_first_24 : decode cX9_first 24 = .ok (.invokestatic 133, 3) := by decide +kernel
theorem dX9_first_27 : decode cX9_first 27 = .ok (.iconst 0, 1) := by decide +kernel
theorem dX9_first_28 : decode cX9_first 28 = .ok (.istore_n 2, 1) := by decide +kernel
theorem dX9_first_29 : decode cX9_first 29 = .ok (.iload_n 2, 1) := by decide +kernel
theorem dX9_first_30 : decode cX9_first 30 = .ok (.bipush 60, 2) := by decide +kernel
theorem dX9_first_32 : decode cX9_first 32 = .ok (.if_icmp .gt 79, 3) := by decide +kernel
theorem dX9_first_35 : decode cX9_first 35 = .ok (.iload_n 1, 1) := by decide +kernel
theorem dX9_first_36 : decode cX9_first 36 = .ok (.iconst 2, 1) := by decide +kernel
theorem dX9_first_37 : decode cX9_first 37 = .ok (.if_icmp .ne 15, 3) := by decide +kernel
theorem dX9_first_40 : decode cX9_first 40 = .ok (.aload_n 0, 1) := by decide +kernel
theorem dX9_first_41 : decode cX9_first 41 = .ok (.getfield 13, 3) := by decide +kernel
theorem dX9_first_44 : decode cX9_first 44 = .ok (.invokestatic 153, 3) := by decide +kernel
theorem dX9_first_47 : decode cX9_first 47 = .ok (.ifCond .eq 5, 3) := by decide +kernel
theorem dX9_first_50 : decode cX9_first 50 = .ok (.iload_n 2, 1) := by decide +kernel
theorem dX9_first_51 : decode cX9_first 51 = .ok (.ireturn, 1) := by decide +kernel
theorem dX9_first_52 : decode cX9_first 52 = .ok (.iconst 0, 1) := by decide +kernel
theorem dX9_first_53 : decode cX9_first 53 = .ok (.istore_n 3, 1) := by decide +kernel
theorem dX9_first_54 : decode cX9_first 54 = .ok (.iload_n 3, 1) := by decide +kernel
theorem dX9_first_55 : decode cX9_first 55 = .ok (.aload_n 0, 1) := by decide +kernel
theorem dX9_first_56 : decode cX9_first 56 = .ok (.getfield 13, 3) := by decide +kernel
theorem dX9_first_59 : decode cX9_first 59 = .ok (.iconst 0, 1) := by decide +kernel
theorem dX9_first_60 : decode cX9_first 60 = .ok (.iaload, 1) := by decide +kernel
theorem dX9_first_61 : decode cX9_first 61 = .ok (.if_icmp .ge 37, 3) := by decide +kernel
theorem dX9_first_64 : decode cX9_first 64 = .ok (.iload_n 1, 1) := by decide +kernel
theorem dX9_first_65 : decode cX9_first 65 = .ok (.iconst 2, 1) := by decide +kernel
theorem dX9_first_66 : decode cX9_first 66 = .ok (.if_icmp .ge 32, 3) := by decide +kernel
theorem dX9_first_69 : decode cX9_first 69 = .ok (.aload_n 0, 1) := by decide +kernel
theorem dX9_first_70 : decode cX9_first 70 = .ok (.getfield 13, 3) := by decide +kernel
theorem dX9_first_73 : decode cX9_first 73 = .ok (.iload_n 3, 1) := by decide +kernel
theorem dX9_first_74 : decode cX9_first 74 = .ok (.iconst 4, 1) := by decide +kernel
theorem dX9_first_75 : decode cX9_first 75 = .ok (.invokestatic 52, 3) := by decide +kernel
theorem dX9_first_78 : decode cX9_first 78 = .ok (.iaload, 1) := by decide +kernel
theorem dX9_first_79 : decode cX9_first 79 = .ok (.ifCond .ne 13, 3) := by decide +kernel
theorem dX9_first_82 : decode cX9_first 82 = .ok (.iload_n 1, 1) := by decide +kernel
theorem dX9_first_83 : decode cX9_first 83 = .ok (.ifCond .ne 7, 3) := by decide +kernel
theorem dX9_first_86 : decode cX9_first 86 = .ok (.iload_n 3, 1) := by decide +kernel
theorem dX9_first_87 : decode cX9_first 87 = .ok (.goto 4, 3) := by decide +kernel
theorem dX9_first_90 : decode cX9_first 90 = .ok (.iload_n 2, 1) := by decide +kernel
theorem dX9_first_91 : decode cX9_first 91 = .ok (.ireturn, 1) := by decide +kernel
theorem dX9_first_92 : decode cX9_first 92 = .ok (.iinc 3 1, 3) := by decide +kernel
theorem dX9_first_95 : decode cX9_first 95 = .ok (.goto (-41), 3) := by decide +kernel
theorem dX9_first_98 : decode cX9_first 98 = .ok (.aload_n 0, 1) := by decide +kernel
theorem dX9_first_99 : decode cX9_first 99 = .ok (.getfield 13, 3) := by decide +kernel
theorem dX9_first_102 : decode cX9_first 102 = .ok (.invokestatic 84, 3) := by decide +kernel
theorem dX9_first_105 : decode cX9_first 105 = .ok (.iinc 2 1, 3) := by decide +kernel
theorem dX9_first_108 : decode cX9_first 108 = .ok (.goto (-79), 3) := by decide +kernel
theorem dX9_first_111 : decode cX9_first 111 = .ok (.bipush (-9), 2) := by decide +kernel
theorem dX9_first_113 : decode cX9_first 113 = .ok (.ireturn, 1) := by decide +kernel
theorem dX9_meetsOne_0 : decode cX9_meetsOne 0 = .ok (.aload_n 0, 1) := by decide +kernel
theorem dX9_meetsOne_1 : decode cX9_meetsOne 1 = .ok (.getfield 9, 3) := by decide +kernel
theorem dX9_meetsOne_4 : decode cX9_meetsOne 4 = .ok (.iload_n 2, 1) := by decide +kernel
theorem dX9_meetsOne_5 : decode cX9_meetsOne 5 = .ok (.iconst 3, 1) := by decide +kernel
theorem dX9_meetsOne_6 : decode cX9_meetsOne 6 = .ok (.invokestatic 52, 3) := by decide +kernel
theorem dX9_meetsOne_9 : decode cX9_meetsOne 9 = .ok (.iaload, 1) := by decide +kernel
theorem dX9_meetsOne_10 : decode cX9_meetsOne 10 = .ok (.istore_n 3, 1) := by decide +kernel
theorem dX9_meetsOne_11 : decode cX9_meetsOne 11 = .ok (.iload_n 3, 1) := by decide +kernel
theorem dX9_meetsOne_12 : decode cX9_meetsOne 12 = .ok (.bipush 9, 2) := by decide +kernel
theorem dX9_meetsOne_14 : decode cX9_meetsOne 14 = .ok (.if_icmp .eq 24, 3) := by decide +kernel
theorem dX9_meetsOne_17 : decode cX9_meetsOne 17 = .ok (.aload_n 0, 1) := by decide +kernel
theorem dX9_meetsOne_18 : decode cX9_meetsOne 18 = .ok (.getfield 9, 3) := by decide +kernel
theorem dX9_meetsOne_21 : decode cX9_meetsOne 21 = .ok (.iload_n 1, 1) := by decide +kernel
theorem dX9_meetsOne_22 : decode cX9_meetsOne 22 = .ok (.iconst 2, 1) := by decide +kernel
theorem dX9_meetsOne_23 : decode cX9_meetsOne 23 = .ok (.invokestatic 52, 3) := by decide +kernel
theorem dX9_meetsOne_26 : decode cX9_meetsOne 26 = .ok (.iaload, 1) := by decide +kernel
theorem dX9_meetsOne_27 : decode cX9_meetsOne 27 = .ok (.iload_n 3, 1) := by decide +kernel
theorem dX9_meetsOne_28 : decode cX9_meetsOne 28 = .ok (.invokestatic 56, 3) := by decide +kernel
theorem dX9_meetsOne_31 : decode cX9_meetsOne 31 = .ok (.ifCond .eq 7, 3) := by decide +kernel
theorem dX9_meetsOne_34 : decode cX9_meetsOne 34 = .ok (.iload_n 3, 1) := by decide +kernel
theorem dX9_meetsOne_35 : decode cX9_meetsOne 35 = .ok (.goto 5, 3) := by decide +kernel
theorem dX9_meetsOne_38 : decode cX9_meetsOne 38 = .ok (.bipush 9, 2) := by decide +kernel
theorem dX9_meetsOne_40 : decode cX9_meetsOne 40 = .ok (.ireturn, 1) := by decide +kernel
theorem dX9_meets_0 : decode cX9_meets 0 = .ok (.aload_n 0, 1) := by decide +kernel
theorem dX9_meets_1 : decode cX9_meets 1 = .ok (.iload_n 1, 1) := by decide +kernel
theorem dX9_meets_2 : decode cX9_meets 2 = .ok (.iload_n 2, 1) := by decide +kernel
theorem dX9_meets_3 : decode cX9_meets 3 = .ok (.invokevirtual 115, 3) := by decide +kernel
theorem dX9_meets_6 : decode cX9_meets 6 = .ok (.ifCond .eq 12, 3) := by decide +kernel
theorem dX9_meets_9 : decode cX9_meets 9 = .ok (.aload_n 0, 1) := by decide +kernel
theorem dX9_meets_10 : decode cX9_meets 10 = .ok (.iload_n 1, 1) := by decide +kernel
theorem dX9_meets_11 : decode cX9_meets 11 = .ok (.iload_n 2, 1) := by decide +kernel
theorem dX9_meets_12 : decode cX9_meets 12 = .ok (.invokevirtual 157, 3) := by decide +kernel
theorem dX9_meets_15 : decode cX9_meets 15 = .ok (.goto 8, 3) := by decide +kernel
theorem dX9_meets_18 : decode cX9_meets 18 = .ok (.aload_n 0, 1) := by decide +kernel
theorem dX9_meets_19 : decode cX9_meets 19 = .ok (.iconst (-1), 1) := by decide +kernel
theorem dX9_meets_20 : decode cX9_meets 20 = .ok (.invokevirtual 38, 3) := by decide +kernel
theorem dX9_meets_23 : decode cX9_meets 23 = .ok (.ireturn, 1) := by decide +kernel
theorem dX9_deceived_0 : decode cX9_deceived 0 = .ok (.aload_n 0, 1) := by decide +kernel
theorem dX9_deceived_1 : decode cX9_deceived 1 = .ok (.iload_n 1, 1) := by decide +kernel
theorem dX9_deceived_2 : decode cX9_deceived 2 = .ok (.invokevirtual 48, 3) := by decide +kernel
theorem dX9_deceived_5 : decode cX9_deceived 5 = .ok (.ifCond .ne 9, 3) := by decide +kernel
theorem dX9_deceived_8 : decode cX9_deceived 8 = .ok (.aload_n 0, 1) := by decide +kernel
theorem dX9_deceived_9 : decode cX9_deceived 9 = .ok (.iconst (-1), 1) := by decide +kernel
theorem dX9_deceived_10 : decode cX9_deceived 10 = .ok (.invokevirtual 38, 3) := by decide +kernel
theorem dX9_deceived_13 : decode cX9_deceived 13 = .ok (.ireturn, 1) := by decide +kernel
theorem dX9_deceived_14 : decode cX9_deceived 14 = .ok (.iload_n 2, 1) := by decide +kernel
theorem dX9_deceived_15 : decode cX9_deceived 15 = .ok (.iconst 0, 1) := by decide +kernel
theorem dX9_deceived_16 : decode cX9_deceived 16 = .ok (.iconst 1, 1) := by decide +kernel
theorem dX9_deceived_17 : decode cX9_deceived 17 = .ok (.invokestatic 44, 3) := by decide +kernel
theorem dX9_deceived_20 : decode cX9_deceived 20 = .ok (.ifCond .ne 10, 3) := by decide +kernel
theorem dX9_deceived_23 : decode cX9_deceived 23 = .ok (.aload_n 0, 1) := by decide +kernel
theorem dX9_deceived_24 : decode cX9_deceived 24 = .ok (.bipush (-2), 2) := by decide +kernel
theorem dX9_deceived_26 : decode cX9_deceived 26 = .ok (.invokevirtual 38, 3) := by decide +kernel
theorem dX9_deceived_29 : decode cX9_deceived 29 = .ok (.ireturn, 1) := by decide +kernel
theorem dX9_deceived_30 : decode cX9_deceived 30 = .ok (.aload_n 0, 1) := by decide +kernel
theorem dX9_deceived_31 : decode cX9_deceived 31 = .ok (.getfield 9, 3) := by decide +kernel
theorem dX9_deceived_34 : decode cX9_deceived 34 = .ok (.iload_n 1, 1) := by decide +kernel
theorem dX9_deceived_35 : decode cX9_deceived 35 = .ok (.iconst 3, 1) := by decide +kernel
theorem dX9_deceived_36 : decode cX9_deceived 36 = .ok (.invokestatic 52, 3) := by decide +kernel
theorem dX9_deceived_39 : decode cX9_deceived 39 = .ok (.iaload, 1) := by decide +kernel
theorem dX9_deceived_40 : decode cX9_deceived 40 = .ok (.istore_n 3, 1) := by decide +kernel
theorem dX9_deceived_41 : decode cX9_deceived 41 = .ok (.iload_n 3, 1) := by decide +kernel
theorem dX9_deceived_42 : decode cX9_deceived 42 = .ok (.bipush 9, 2) := by decide +kernel
theorem dX9_deceived_44 : decode cX9_deceived 44 = .ok (.if_icmp .eq 12, 3) := by decide +kernel
theorem dX9_deceived_47 : decode cX9_deceived 47 = .ok (.iload_n 2, 1) := by decide +kernel
theorem dX9_deceived_48 : decode cX9_deceived 48 = .ok (.ifCond .ne 12, 3) := by decide +kernel
theorem dX9_deceived_51 : decode cX9_deceived 51 = .ok (.iload_n 3, 1) := by decide +kernel
theorem dX9_deceived_52 : decode cX9_deceived 52 = .ok (.iload_n 1, 1) := by decide +kernel
theorem dX9_deceived_53 : decode cX9_deceived 53 = .ok (.if_icmp .ne 7, 3) := by decide +kernel
theorem dX9_deceived_56 : decode cX9_deceived 56 = .ok (.iconst 0, 1) := by decide +kernel
theorem dX9_deceived_57 : decode cX9_deceived 57 = .ok (.goto 12, 3) := by decide +kernel
theorem dX9_deceived_60 : decode cX9_deceived 60 = .ok (.aload_n 0, 1) := by decide +kernel
theorem dX9_deceived_61 : decode cX9_deceived 61 = .ok (.getfield 9, 3) := by decide +kernel
theorem dX9_deceived_64 : decode cX9_deceived 64 = .ok (.iload_n 3, 1) := by decide +kernel
theorem dX9_deceived_65 : decode cX9_deceived 65 = .ok (.iload_n 1, 1) := by decide +kernel
theorem dX9_deceived_66 : decode cX9_deceived 66 = .ok (.invokestatic 60, 3) := by decide +kernel
theorem dX9_deceived_69 : decode cX9_deceived 69 = .ok (.ireturn, 1) := by decide +kernel
theorem dX9_famous_0 : decode cX9_famous 0 = .ok (.iload_n 1, 1) := by decide +kernel
theorem dX9_famous_1 : decode cX9_famous 1 = .ok (.iconst 0, 1) := by decide +kernel
theorem dX9_famous_2 : decode cX9_famous 2 = .ok (.iconst 1, 1) := by decide +kernel
theorem dX9_famous_3 : decode cX9_famous 3 = .ok (.invokestatic 44, 3) := by decide +kernel
theorem dX9_famous_6 : decode cX9_famous 6 = .ok (.ifCond .ne 10, 3) := by decide +kernel
theorem dX9_famous_9 : decode cX9_famous 9 = .ok (.aload_n 0, 1) := by decide +kernel
theorem dX9_famous_10 : decode cX9_famous 10 = .ok (.bipush (-2), 2) := by decide +kernel
theorem dX9_famous_12 : decode cX9_famous 12 = .ok (.invokevirtual 38, 3) := by decide +kernel
theorem dX9_famous_15 : decode cX9_famous 15 = .ok (.ireturn, 1) := by decide +kernel
theorem dX9_famous_16 : decode cX9_famous 16 = .ok (.bipush (-9), 2) := by decide +kernel
theorem dX9_famous_18 : decode cX9_famous 18 = .ok (.istore_n 2, 1) := by decide +kernel
theorem dX9_famous_19 : decode cX9_famous 19 = .ok (.iconst 0, 1) := by decide +kernel
theorem dX9_famous_20 : decode cX9_famous 20 = .ok (.istore_n 3, 1) := by decide +kernel
theorem dX9_famous_21 : decode cX9_famous 21 = .ok (.iload_n 3, 1) := by decide +kernel
theorem dX9_famous_22 : decode cX9_famous 22 = .ok (.aload_n 0, 1) := by decide +kernel
theorem dX9_famous_23 : decode cX9_famous 23 = .ok (.getfield 9, 3) := by decide +kernel
theorem dX9_famous_26 : decode cX9_famous 26 = .ok (.iconst 0, 1) := by decide +kernel
theorem dX9_famous_27 : decode cX9_famous 27 = .ok (.iaload, 1) := by decide +kernel
theorem dX9_famous_28 : decode cX9_famous 28 = .ok (.if_icmp .ge 42, 3) := by decide +kernel
theorem dX9_famous_31 : decode cX9_famous 31 = .ok (.iload_n 2, 1) := by decide +kernel
theorem dX9_famous_32 : decode cX9_famous 32 = .ok (.ifCond .lt 30, 3) := by decide +kernel
theorem dX9_famous_35 : decode cX9_famous 35 = .ok (.aload_n 0, 1) := by decide +kernel
theorem dX9_famous_36 : decode cX9_famous 36 = .ok (.getfield 9, 3) := by decide +kernel
theorem dX9_famous_39 : decode cX9_famous 39 = .ok (.iload_n 3, 1) := by decide +kernel
theorem dX9_famous_40 : decode cX9_famous 40 = .ok (.iconst 4, 1) := by decide +kernel
theorem dX9_famous_41 : decode cX9_famous 41 = .ok (.iload_n 1, 1) := by decide +kernel
theorem dX9_famous_42 : decode cX9_famous 42 = .ok (.iadd, 1) := by decide +kernel
theorem dX9_famous_43 : decode cX9_famous 43 = .ok (.invokestatic 52, 3) := by decide +kernel
theorem dX9_famous_46 : decode cX9_famous 46 = .ok (.iaload, 1) := by decide +kernel
theorem dX9_famous_47 : decode cX9_famous 47 = .ok (.aload_n 0, 1) := by decide +kernel
theorem dX9_famous_48 : decode cX9_famous 48 = .ok (.getfield 9, 3) := by decide +kernel
theorem dX9_famous_51 : decode cX9_famous 51 = .ok (.iload_n 2, 1) := by decide +kernel
theorem dX9_famous_52 : decode cX9_famous 52 = .ok (.iconst 4, 1) := by decide +kernel
theorem dX9_famous_53 : decode cX9_famous 53 = .ok (.iload_n 1, 1) := by decide +kernel
theorem dX9_famous_54 : decode cX9_famous 54 = .ok (.iadd, 1) := by decide +kernel
theorem dX9_famous_55 : decode cX9_famous 55 = .ok (.invokestatic 52, 3) := by decide +kernel
theorem dX9_famous_58 : decode cX9_famous 58 = .ok (.iaload, 1) := by decide +kernel
theorem dX9_famous_59 : decode cX9_famous 59 = .ok (.if_icmp .le 5, 3) := by decide +kernel
theorem dX9_famous_62 : decode cX9_famous 62 = .ok (.iload_n 3, 1) := by decide +kernel
theorem dX9_famous_63 : decode cX9_famous 63 = .ok (.istore_n 2, 1) := by decide +kernel
theorem dX9_famous_64 : decode cX9_famous 64 = .ok (.iinc 3 1, 3) := by decide +kernel
theorem dX9_famous_67 : decode cX9_famous 67 = .ok (.goto (-46), 3) := by decide +kernel
theorem dX9_famous_70 : decode cX9_famous 70 = .ok (.iload_n 2, 1) := by decide +kernel
theorem dX9_famous_71 : decode cX9_famous 71 = .ok (.ireturn, 1) := by decide +kernel
theorem dX9_worthBehind_0 : decode cX9_worthBehind 0 = .ok (.aload_n 0, 1) := by decide +kernel
theorem dX9_worthBehind_1 : decode cX9_worthBehind 1 = .ok (.getfield 13, 3) := by decide +kernel
theorem dX9_worthBehind_4 : decode cX9_worthBehind 4 = .ok (.iload_n 2, 1) := by decide +kernel
theorem dX9_worthBehind_5 : decode cX9_worthBehind 5 = .ok (.invokestatic 126, 3) := by decide +kernel
theorem dX9_worthBehind_8 : decode cX9_worthBehind 8 = .ok (.iload_n 1, 1) := by decide +kernel
theorem dX9_worthBehind_9 : decode cX9_worthBehind 9 = .ok (.ifCond .ge 13, 3) := by decide +kernel
theorem dX9_worthBehind_12 : decode cX9_worthBehind 12 = .ok (.aload_n 0, 1) := by decide +kernel
theorem dX9_worthBehind_13 : decode cX9_worthBehind 13 = .ok (.getfield 13, 3) := by decide +kernel
theorem dX9_worthBehind_16 : decode cX9_worthBehind 16 = .ok (.invokestatic 160, 3) := by decide +kernel
theorem dX9_worthBehind_19 : decode cX9_worthBehind 19 = .ok (.goto 11, 3) := by decide +kernel
theorem dX9_worthBehind_22 : decode cX9_worthBehind 22 = .ok (.aload_n 0, 1) := by decide +kernel
theorem dX9_worthBehind_23 : decode cX9_worthBehind 23 = .ok (.getfield 13, 3) := by decide +kernel
theorem dX9_worthBehind_26 : decode cX9_worthBehind 26 = .ok (.iload_n 1, 1) := by decide +kernel
theorem dX9_worthBehind_27 : decode cX9_worthBehind 27 = .ok (.invokestatic 88, 3) := by decide +kernel
theorem dX9_worthBehind_30 : decode cX9_worthBehind 30 = .ok (.ireturn, 1) := by decide +kernel
theorem dX9_worthNow_0 : decode cX9_worthNow 0 = .ok (.aload_n 0, 1) := by decide +kernel
theorem dX9_worthNow_1 : decode cX9_worthNow 1 = .ok (.getfield 9, 3) := by decide +kernel
theorem dX9_worthNow_4 : decode cX9_worthNow 4 = .ok (.aload_n 0, 1) := by decide +kernel
theorem dX9_worthNow_5 : decode cX9_worthNow 5 = .ok (.getfield 13, 3) := by decide +kernel
theorem dX9_worthNow_8 : decode cX9_worthNow 8 = .ok (.invokestatic 133, 3) := by decide +kernel
theorem dX9_worthNow_11 : decode cX9_worthNow 11 = .ok (.aload_n 0, 1) := by decide +kernel
theorem dX9_worthNow_12 : decode cX9_worthNow 12 = .ok (.iload_n 1, 1) := by decide +kernel
theorem dX9_worthNow_13 : decode cX9_worthNow 13 = .ok (.iload_n 2, 1) := by decide +kernel
theorem dX9_worthNow_14 : decode cX9_worthNow 14 = .ok (.invokevirtual 163, 3) := by decide +kernel
theorem dX9_worthNow_17 : decode cX9_worthNow 17 = .ok (.ireturn, 1) := by decide +kernel
theorem dX9_wrongLend_0 : decode cX9_wrongLend 0 = .ok (.aload_n 0, 1) := by decide +kernel
theorem dX9_wrongLend_1 : decode cX9_wrongLend 1 = .ok (.iload_n 1, 1) := by decide +kernel
theorem dX9_wrongLend_2 : decode cX9_wrongLend 2 = .ok (.invokevirtual 48, 3) := by decide +kernel
theorem dX9_wrongLend_5 : decode cX9_wrongLend 5 = .ok (.ifCond .eq 12, 3) := by decide +kernel
theorem dX9_wrongLend_8 : decode cX9_wrongLend 8 = .ok (.iload_n 2, 1) := by decide +kernel
theorem dX9_wrongLend_9 : decode cX9_wrongLend 9 = .ok (.bipush 24, 2) := by decide +kernel
theorem dX9_wrongLend_11 : decode cX9_wrongLend 11 = .ok (.invokestatic 150, 3) := by decide +kernel
theorem dX9_wrongLend_14 : decode cX9_wrongLend 14 = .ok (.goto 4, 3) := by decide +kernel
theorem dX9_wrongLend_17 : decode cX9_wrongLend 17 = .ok (.iconst (-1), 1) := by decide +kernel
theorem dX9_wrongLend_18 : decode cX9_wrongLend 18 = .ok (.ireturn, 1) := by decide +kernel
theorem dX9_lend_0 : decode cX9_lend 0 = .ok (.aload_n 0, 1) := by decide +kernel
theorem dX9_lend_1 : decode cX9_lend 1 = .ok (.iload_n 1, 1) := by decide +kernel
theorem dX9_lend_2 : decode cX9_lend 2 = .ok (.iload_n 2, 1) := by decide +kernel
theorem dX9_lend_3 : decode cX9_lend 3 = .ok (.invokevirtual 166, 3) := by decide +kernel
theorem dX9_lend_6 : decode cX9_lend 6 = .ok (.istore 4, 2) := by decide +kernel
theorem dX9_lend_8 : decode cX9_lend 8 = .ok (.iload 4, 2) := by decide +kernel
theorem dX9_lend_10 : decode cX9_lend 10 = .ok (.ifCond .ne 36, 3) := by decide +kernel
theorem dX9_lend_13 : decode cX9_lend 13 = .ok (.iload_n 3, 1) := by decide +kernel
theorem dX9_lend_14 : decode cX9_lend 14 = .ok (.iconst 0, 1) := by decide +kernel
theorem dX9_lend_15 : decode cX9_lend 15 = .ok (.iconst 1, 1) := by decide +kernel
theorem dX9_lend_16 : decode cX9_lend 16 = .ok (.invokestatic 44, 3) := by decide +kernel
theorem dX9_lend_19 : decode cX9_lend 19 = .ok (.ifCond .ne 8, 3) := by decide +kernel
theorem dX9_lend_22 : decode cX9_lend 22 = .ok (.bipush (-2), 2) := by decide +kernel
theorem dX9_lend_24 : decode cX9_lend 24 = .ok (.goto 20, 3) := by decide +kernel
theorem dX9_lend_27 : decode cX9_lend 27 = .ok (.aload_n 0, 1) := by decide +kernel
theorem dX9_lend_28 : decode cX9_lend 28 = .ok (.getfield 9, 3) := by decide +kernel
theorem dX9_lend_31 : decode cX9_lend 31 = .ok (.iload_n 1, 1) := by decide +kernel
theorem dX9_lend_32 : decode cX9_lend 32 = .ok (.invokestatic 64, 3) := by decide +kernel
theorem dX9_lend_35 : decode cX9_lend 35 = .ok (.ifCond .eq 7, 3) := by decide +kernel
theorem dX9_lend_38 : decode cX9_lend 38 = .ok (.iconst 0, 1) := by decide +kernel
theorem dX9_lend_39 : decode cX9_lend 39 = .ok (.goto 5, 3) := by decide +kernel
theorem dX9_lend_42 : decode cX9_lend 42 = .ok (.bipush (-3), 2) := by decide +kernel
theorem dX9_lend_44 : decode cX9_lend 44 = .ok (.istore 4, 2) := by decide +kernel
theorem dX9_lend_46 : decode cX9_lend 46 = .ok (.iload 4, 2) := by decide +kernel
theorem dX9_lend_48 : decode cX9_lend 48 = .ok (.ifCond .eq 10, 3) := by decide +kernel
theorem dX9_lend_51 : decode cX9_lend 51 = .ok (.aload_n 0, 1) := by decide +kernel
theorem dX9_lend_52 : decode cX9_lend 52 = .ok (.iload 4, 2) := by decide +kernel
theorem dX9_lend_54 : decode cX9_lend 54 = .ok (.invokevirtual 38, 3) := by decide +kernel
theorem dX9_lend_57 : decode cX9_lend 57 = .ok (.ireturn, 1) := by decide +kernel
theorem dX9_lend_58 : decode cX9_lend 58 = .ok (.iconst 1, 1) := by decide +kernel
theorem dX9_lend_59 : decode cX9_lend 59 = .ok (.iconst 2, 1) := by decide +kernel
theorem dX9_lend_60 : decode cX9_lend 60 = .ok (.iload_n 3, 1) := by decide +kernel
theorem dX9_lend_61 : decode cX9_lend 61 = .ok (.imul, 1) := by decide +kernel
theorem dX9_lend_62 : decode cX9_lend 62 = .ok (.isub, 1) := by decide +kernel
theorem dX9_lend_63 : decode cX9_lend 63 = .ok (.istore 5, 2) := by decide +kernel
theorem dX9_lend_65 : decode cX9_lend 65 = .ok (.bipush (-9), 2) := by decide +kernel
theorem dX9_lend_67 : decode cX9_lend 67 = .ok (.istore 6, 2) := by decide +kernel
theorem dX9_lend_69 : decode cX9_lend 69 = .ok (.iload 5, 2) := by decide +kernel
theorem dX9_lend_71 : decode cX9_lend 71 = .ok (.aload_n 0, 1) := by decide +kernel
theorem dX9_lend_72 : decode cX9_lend 72 = .ok (.iload_n 1, 1) := by decide +kernel
theorem dX9_lend_73 : decode cX9_lend 73 = .ok (.iload_n 2, 1) := by decide +kernel
theorem dX9_lend_74 : decode cX9_lend 74 = .ok (.invokevirtual 169, 3) := by decide +kernel
theorem dX9_lend_77 : decode cX9_lend 77 = .ok (.imul, 1) := by decide +kernel
theorem dX9_lend_78 : decode cX9_lend 78 = .ok (.istore 7, 2) := by decide +kernel
theorem dX9_lend_80 : decode cX9_lend 80 = .ok (.iconst 0, 1) := by decide +kernel
theorem dX9_lend_81 : decode cX9_lend 81 = .ok (.istore 8, 2) := by decide +kernel
theorem dX9_lend_83 : decode cX9_lend 83 = .ok (.iload 8, 2) := by decide +kernel
theorem dX9_lend_85 : decode cX9_lend 85 = .ok (.aload_n 0, 1) := by decide +kernel
theorem dX9_lend_86 : decode cX9_lend 86 = .ok (.getfield 9, 3) := by decide +kernel
theorem dX9_lend_89 : decode cX9_lend 89 = .ok (.iconst 0, 1) := by decide +kernel
theorem dX9_lend_90 : decode cX9_lend 90 = .ok (.iaload, 1) := by decide +kernel
theorem dX9_lend_91 : decode cX9_lend 91 = .ok (.if_icmp .ge 75, 3) := by decide +kernel
theorem dX9_lend_94 : decode cX9_lend 94 = .ok (.aload_n 0, 1) := by decide +kernel
theorem dX9_lend_95 : decode cX9_lend 95 = .ok (.getfield 9, 3) := by decide +kernel
theorem dX9_lend_98 : decode cX9_lend 98 = .ok (.iload_n 1, 1) := by decide +kernel
theorem dX9_lend_99 : decode cX9_lend 99 = .ok (.iload 8, 2) := by decide +kernel
theorem dX9_lend_101 : decode cX9_lend 101 = .ok (.invokestatic 118, 3) := by decide +kernel
theorem dX9_lend_104 : decode cX9_lend 104 = .ok (.ifCond .ne 6, 3) := by decide +kernel
theorem dX9_lend_107 : decode cX9_lend 107 = .ok (.goto 53, 3) := by decide +kernel
theorem dX9_lend_110 : decode cX9_lend 110 = .ok (.aload_n 0, 1) := by decide +kernel
theorem dX9_lend_111 : decode cX9_lend 111 = .ok (.getfield 9, 3) := by decide +kernel
theorem dX9_lend_114 : decode cX9_lend 114 = .ok (.aload_n 0, 1) := by decide +kernel
theorem dX9_lend_115 : decode cX9_lend 115 = .ok (.getfield 13, 3) := by decide +kernel
theorem dX9_lend_118 : decode cX9_lend 118 = .ok (.invokestatic 133, 3) := by decide +kernel
theorem dX9_lend_121 : decode cX9_lend 121 = .ok (.aload_n 0, 1) := by decide +kernel
theorem dX9_lend_122 : decode cX9_lend 122 = .ok (.getfield 13, 3) := by decide +kernel
theorem dX9_lend_125 : decode cX9_lend 125 = .ok (.iload_n 1, 1) := by decide +kernel
theorem dX9_lend_126 : decode cX9_lend 126 = .ok (.iload 8, 2) := by decide +kernel
theorem dX9_lend_128 : decode cX9_lend 128 = .ok (.invokestatic 122, 3) := by decide +kernel
theorem dX9_lend_131 : decode cX9_lend 131 = .ok (.iload 5, 2) := by decide +kernel
theorem dX9_lend_133 : decode cX9_lend 133 = .ok (.aload_n 0, 1) := by decide +kernel
theorem dX9_lend_134 : decode cX9_lend 134 = .ok (.iload_n 1, 1) := by decide +kernel
theorem dX9_lend_135 : decode cX9_lend 135 = .ok (.iload_n 2, 1) := by decide +kernel
theorem dX9_lend_136 : decode cX9_lend 136 = .ok (.invokevirtual 163, 3) := by decide +kernel
theorem dX9_lend_139 : decode cX9_lend 139 = .ok (.imul, 1) := by decide +kernel
theorem dX9_lend_140 : decode cX9_lend 140 = .ok (.istore 9, 2) := by decide +kernel
theorem dX9_lend_142 : decode cX9_lend 142 = .ok (.iload 9, 2) := by decide +kernel
theorem dX9_lend_144 : decode cX9_lend 144 = .ok (.iload 7, 2) := by decide +kernel
theorem dX9_lend_146 : decode cX9_lend 146 = .ok (.if_icmp .gt 6, 3) := by decide +kernel
theorem dX9_lend_149 : decode cX9_lend 149 = .ok (.goto 11, 3) := by decide +kernel
theorem dX9_lend_152 : decode cX9_lend 152 = .ok (.iload 8, 2) := by decide +kernel
theorem dX9_lend_154 : decode cX9_lend 154 = .ok (.istore 6, 2) := by decide +kernel
theorem dX9_lend_156 : decode cX9_lend 156 = .ok (.iload 9, 2) := by decide +kernel
theorem dX9_lend_158 : decode cX9_lend 158 = .ok (.istore 7, 2) := by decide +kernel
theorem dX9_lend_160 : decode cX9_lend 160 = .ok (.iinc 8 1, 3) := by decide +kernel
theorem dX9_lend_163 : decode cX9_lend 163 = .ok (.goto (-80), 3) := by decide +kernel
theorem dX9_lend_166 : decode cX9_lend 166 = .ok (.iload 6, 2) := by decide +kernel
theorem dX9_lend_168 : decode cX9_lend 168 = .ok (.ireturn, 1) := by decide +kernel
theorem dX9_take_0 : decode cX9_take 0 = .ok (.aload_n 0, 1) := by decide +kernel
theorem dX9_take_1 : decode cX9_take 1 = .ok (.iload_n 1, 1) := by decide +kernel
theorem dX9_take_2 : decode cX9_take 2 = .ok (.iload_n 2, 1) := by decide +kernel
theorem dX9_take_3 : decode cX9_take 3 = .ok (.invokevirtual 166, 3) := by decide +kernel
theorem dX9_take_6 : decode cX9_take 6 = .ok (.istore_n 3, 1) := by decide +kernel
theorem dX9_take_7 : decode cX9_take 7 = .ok (.iload_n 3, 1) := by decide +kernel
theorem dX9_take_8 : decode cX9_take 8 = .ok (.ifCond .ne 17, 3) := by decide +kernel
theorem dX9_take_11 : decode cX9_take 11 = .ok (.aload_n 0, 1) := by decide +kernel
theorem dX9_take_12 : decode cX9_take 12 = .ok (.getfield 9, 3) := by decide +kernel
theorem dX9_take_15 : decode cX9_take 15 = .ok (.iload_n 1, 1) := by decide +kernel
theorem dX9_take_16 : decode cX9_take 16 = .ok (.invokestatic 64, 3) := by decide +kernel
theorem dX9_take_19 : decode cX9_take 19 = .ok (.ifCond .ne 6, 3) := by decide +kernel
theorem dX9_take_22 : decode cX9_take 22 = .ok (.bipush (-3), 2) := by decide +kernel
theorem dX9_take_24 : decode cX9_take 24 = .ok (.istore_n 3, 1) := by decide +kernel
theorem dX9_take_25 : decode cX9_take 25 = .ok (.iload_n 3, 1) := by decide +kernel
theorem dX9_take_26 : decode cX9_take 26 = .ok (.ifCond .eq 9, 3) := by decide +kernel
theorem dX9_take_29 : decode cX9_take 29 = .ok (.aload_n 0, 1) := by decide +kernel
theorem dX9_take_30 : decode cX9_take 30 = .ok (.iload_n 3, 1) := by decide +kernel
theorem dX9_take_31 : decode cX9_take 31 = .ok (.invokevirtual 38, 3) := by decide +kernel
theorem dX9_take_34 : decode cX9_take 34 = .ok (.ireturn, 1) := by decide +kernel
theorem dX9_take_35 : decode cX9_take 35 = .ok (.bipush (-9), 2) := by decide +kernel
theorem dX9_take_37 : decode cX9_take 37 = .ok (.istore 4, 2) := by decide +kernel
theorem dX9_take_39 : decode cX9_take 39 = .ok (.aload_n 0, 1) := by decide +kernel
theorem dX9_take_40 : decode cX9_take 40 = .ok (.iload_n 1, 1) := by decide +kernel
theorem dX9_take_41 : decode cX9_take 41 = .ok (.iload_n 2, 1) := by decide +kernel
theorem dX9_take_42 : decode cX9_take 42 = .ok (.invokevirtual 169, 3) := by decide +kernel
theorem dX9_take_45 : decode cX9_take 45 = .ok (.istore 5, 2) := by decide +kernel
theorem dX9_take_47 : decode cX9_take 47 = .ok (.iconst 0, 1) := by decide +kernel
theorem dX9_take_48 : decode cX9_take 48 = .ok (.istore 6, 2) := by decide +kernel
theorem dX9_take_50 : decode cX9_take 50 = .ok (.iload 6, 2) := by decide +kernel
theorem dX9_take_52 : decode cX9_take 52 = .ok (.aload_n 0, 1) := by decide +kernel
theorem dX9_take_53 : decode cX9_take 53 = .ok (.getfield 9, 3) := by decide +kernel
theorem dX9_take_56 : decode cX9_take 56 = .ok (.iconst 0, 1) := by decide +kernel
theorem dX9_take_57 : decode cX9_take 57 = .ok (.iaload, 1) := by decide +kernel
theorem dX9_take_58 : decode cX9_take 58 = .ok (.if_icmp .ge 72, 3) := by decide +kernel
theorem dX9_take_61 : decode cX9_take 61 = .ok (.aload_n 0, 1) := by decide +kernel
theorem dX9_take_62 : decode cX9_take 62 = .ok (.getfield 9, 3) := by decide +kernel
theorem dX9_take_65 : decode cX9_take 65 = .ok (.iload 6, 2) := by decide +kernel
theorem dX9_take_67 : decode cX9_take 67 = .ok (.iload_n 1, 1) := by decide +kernel
theorem dX9_take_68 : decode cX9_take 68 = .ok (.invokestatic 118, 3) := by decide +kernel
theorem dX9_take_71 : decode cX9_take 71 = .ok (.ifCond .ne 6, 3) := by decide +kernel
theorem dX9_take_74 : decode cX9_take 74 = .ok (.goto 50, 3) := by decide +kernel
theorem dX9_take_77 : decode cX9_take 77 = .ok (.aload_n 0, 1) := by decide +kernel
theorem dX9_take_78 : decode cX9_take 78 = .ok (.getfield 9, 3) := by decide +kernel
theorem dX9_take_81 : decode cX9_take 81 = .ok (.aload_n 0, 1) := by decide +kernel
theorem dX9_take_82 : decode cX9_take 82 = .ok (.getfield 13, 3) := by decide +kernel
theorem dX9_take_85 : decode cX9_take 85 = .ok (.invokestatic 133, 3) := by decide +kernel
theorem dX9_take_88 : decode cX9_take 88 = .ok (.aload_n 0, 1) := by decide +kernel
theorem dX9_take_89 : decode cX9_take 89 = .ok (.getfield 13, 3) := by decide +kernel
theorem dX9_take_92 : decode cX9_take 92 = .ok (.iload 6, 2) := by decide +kernel
theorem dX9_take_94 : decode cX9_take 94 = .ok (.iload_n 1, 1) := by decide +kernel
theorem dX9_take_95 : decode cX9_take 95 = .ok (.invokestatic 122, 3) := by decide +kernel
theorem dX9_take_98 : decode cX9_take 98 = .ok (.aload_n 0, 1) := by decide +kernel
theorem dX9_take_99 : decode cX9_take 99 = .ok (.iload_n 1, 1) := by decide +kernel
theorem dX9_take_100 : decode cX9_take 100 = .ok (.iload_n 2, 1) := by decide +kernel
theorem dX9_take_101 : decode cX9_take 101 = .ok (.invokevirtual 163, 3) := by decide +kernel
theorem dX9_take_104 : decode cX9_take 104 = .ok (.istore 7, 2) := by decide +kernel
theorem dX9_take_106 : decode cX9_take 106 = .ok (.iload 7, 2) := by decide +kernel
theorem dX9_take_108 : decode cX9_take 108 = .ok (.iload 5, 2) := by decide +kernel
theorem dX9_take_110 : decode cX9_take 110 = .ok (.if_icmp .gt 6, 3) := by decide +kernel
theorem dX9_take_113 : decode cX9_take 113 = .ok (.goto 11, 3) := by decide +kernel
theorem dX9_take_116 : decode cX9_take 116 = .ok (.iload 6, 2) := by decide +kernel
theorem dX9_take_118 : decode cX9_take 118 = .ok (.istore 4, 2) := by decide +kernel
theorem dX9_take_120 : decode cX9_take 120 = .ok (.iload 7, 2) := by decide +kernel
theorem dX9_take_122 : decode cX9_take 122 = .ok (.istore 5, 2) := by decide +kernel
theorem dX9_take_124 : decode cX9_take 124 = .ok (.iinc 6 1, 3) := by decide +kernel
theorem dX9_take_127 : decode cX9_take 127 = .ok (.goto (-77), 3) := by decide +kernel
theorem dX9_take_130 : decode cX9_take 130 = .ok (.iload 4, 2) := by decide +kernel
theorem dX9_take_132 : decode cX9_take 132 = .ok (.ireturn, 1) := by decide +kernel
theorem dX9_keep_0 : decode cX9_keep 0 = .ok (.iload_n 1, 1) := by decide +kernel
theorem dX9_keep_1 : decode cX9_keep 1 = .ok (.bipush 24, 2) := by decide +kernel
theorem dX9_keep_3 : decode cX9_keep 3 = .ok (.invokestatic 150, 3) := by decide +kernel
theorem dX9_keep_6 : decode cX9_keep 6 = .ok (.istore_n 2, 1) := by decide +kernel
theorem dX9_keep_7 : decode cX9_keep 7 = .ok (.iload_n 2, 1) := by decide +kernel
theorem dX9_keep_8 : decode cX9_keep 8 = .ok (.ifCond .eq 9, 3) := by decide +kernel
theorem dX9_keep_11 : decode cX9_keep 11 = .ok (.aload_n 0, 1) := by decide +kernel
theorem dX9_keep_12 : decode cX9_keep 12 = .ok (.iload_n 2, 1) := by decide +kernel
theorem dX9_keep_13 : decode cX9_keep 13 = .ok (.invokevirtual 38, 3) := by decide +kernel
theorem dX9_keep_16 : decode cX9_keep 16 = .ok (.ireturn, 1) := by decide +kernel
theorem dX9_keep_17 : decode cX9_keep 17 = .ok (.bipush (-9), 2) := by decide +kernel
theorem dX9_keep_19 : decode cX9_keep 19 = .ok (.istore_n 3, 1) := by decide +kernel
theorem dX9_keep_20 : decode cX9_keep 20 = .ok (.aload_n 0, 1) := by decide +kernel
theorem dX9_keep_21 : decode cX9_keep 21 = .ok (.bipush (-9), 2) := by decide +kernel
theorem dX9_keep_23 : decode cX9_keep 23 = .ok (.iload_n 1, 1) := by decide +kernel
theorem dX9_keep_24 : decode cX9_keep 24 = .ok (.invokevirtual 169, 3) := by decide +kernel
theorem dX9_keep_27 : decode cX9_keep 27 = .ok (.istore 4, 2) := by decide +kernel
theorem dX9_keep_29 : decode cX9_keep 29 = .ok (.iconst 0, 1) := by decide +kernel
theorem dX9_keep_30 : decode cX9_keep 30 = .ok (.istore 5, 2) := by decide +kernel
theorem dX9_keep_32 : decode cX9_keep 32 = .ok (.iload 5, 2) := by decide +kernel
theorem dX9_keep_34 : decode cX9_keep 34 = .ok (.aload_n 0, 1) := by decide +kernel
theorem dX9_keep_35 : decode cX9_keep 35 = .ok (.getfield 9, 3) := by decide +kernel
theorem dX9_keep_38 : decode cX9_keep 38 = .ok (.iconst 0, 1) := by decide +kernel
theorem dX9_keep_39 : decode cX9_keep 39 = .ok (.iaload, 1) := by decide +kernel
theorem dX9_keep_40 : decode cX9_keep 40 = .ok (.if_icmp .ge 75, 3) := by decide +kernel
theorem dX9_keep_43 : decode cX9_keep 43 = .ok (.aload_n 0, 1) := by decide +kernel
theorem dX9_keep_44 : decode cX9_keep 44 = .ok (.getfield 9, 3) := by decide +kernel
theorem dX9_keep_47 : decode cX9_keep 47 = .ok (.iload 5, 2) := by decide +kernel
theorem dX9_keep_49 : decode cX9_keep 49 = .ok (.bipush 6, 2) := by decide +kernel
theorem dX9_keep_51 : decode cX9_keep 51 = .ok (.invokestatic 52, 3) := by decide +kernel
theorem dX9_keep_54 : decode cX9_keep 54 = .ok (.iaload, 1) := by decide +kernel
theorem dX9_keep_55 : decode cX9_keep 55 = .ok (.ifCond .ne 6, 3) := by decide +kernel
theorem dX9_keep_58 : decode cX9_keep 58 = .ok (.goto 51, 3) := by decide +kernel
theorem dX9_keep_61 : decode cX9_keep 61 = .ok (.aload_n 0, 1) := by decide +kernel
theorem dX9_keep_62 : decode cX9_keep 62 = .ok (.getfield 9, 3) := by decide +kernel
theorem dX9_keep_65 : decode cX9_keep 65 = .ok (.aload_n 0, 1) := by decide +kernel
theorem dX9_keep_66 : decode cX9_keep 66 = .ok (.getfield 13, 3) := by decide +kernel
theorem dX9_keep_69 : decode cX9_keep 69 = .ok (.invokestatic 133, 3) := by decide +kernel
theorem dX9_keep_72 : decode cX9_keep 72 = .ok (.aload_n 0, 1) := by decide +kernel
theorem dX9_keep_73 : decode cX9_keep 73 = .ok (.getfield 13, 3) := by decide +kernel
theorem dX9_keep_76 : decode cX9_keep 76 = .ok (.iload 5, 2) := by decide +kernel
theorem dX9_keep_78 : decode cX9_keep 78 = .ok (.invokestatic 81, 3) := by decide +kernel
theorem dX9_keep_81 : decode cX9_keep 81 = .ok (.istore 6, 2) := by decide +kernel
theorem dX9_keep_83 : decode cX9_keep 83 = .ok (.aload_n 0, 1) := by decide +kernel
theorem dX9_keep_84 : decode cX9_keep 84 = .ok (.bipush (-9), 2) := by decide +kernel
theorem dX9_keep_86 : decode cX9_keep 86 = .ok (.iload_n 1, 1) := by decide +kernel
theorem dX9_keep_87 : decode cX9_keep 87 = .ok (.invokevirtual 163, 3) := by decide +kernel
theorem dX9_keep_90 : decode cX9_keep 90 = .ok (.istore 7, 2) := by decide +kernel
theorem dX9_keep_92 : decode cX9_keep 92 = .ok (.iload 7, 2) := by decide +kernel
theorem dX9_keep_94 : decode cX9_keep 94 = .ok (.iload 4, 2) := by decide +kernel
theorem dX9_keep_96 : decode cX9_keep 96 = .ok (.if_icmp .gt 6, 3) := by decide +kernel
theorem dX9_keep_99 : decode cX9_keep 99 = .ok (.goto 10, 3) := by decide +kernel
theorem dX9_keep_102 : decode cX9_keep 102 = .ok (.iload 5, 2) := by decide +kernel
theorem dX9_keep_104 : decode cX9_keep 104 = .ok (.istore_n 3, 1) := by decide +kernel
theorem dX9_keep_105 : decode cX9_keep 105 = .ok (.iload 7, 2) := by decide +kernel
theorem dX9_keep_107 : decode cX9_keep 107 = .ok (.istore 4, 2) := by decide +kernel
theorem dX9_keep_109 : decode cX9_keep 109 = .ok (.iinc 5 1, 3) := by decide +kernel
theorem dX9_keep_112 : decode cX9_keep 112 = .ok (.goto (-80), 3) := by decide +kernel
theorem dX9_keep_115 : decode cX9_keep 115 = .ok (.iload_n 3, 1) := by decide +kernel
theorem dX9_keep_116 : decode cX9_keep 116 = .ok (.ireturn, 1) := by decide +kernel
theorem dX9_plainSet_0 : decode cX9_plainSet 0 = .ok (.iconst 0, 1) := by decide +kernel
theorem dX9_plainSet_1 : decode cX9_plainSet 1 = .ok (.istore_n 1, 1) := by decide +kernel
theorem dX9_plainSet_2 : decode cX9_plainSet 2 = .ok (.iconst 0, 1) := by decide +kernel
theorem dX9_plainSet_3 : decode cX9_plainSet 3 = .ok (.istore_n 2, 1) := by decide +kernel
theorem dX9_plainSet_4 : decode cX9_plainSet 4 = .ok (.iload_n 2, 1) := by decide +kernel
theorem dX9_plainSet_5 : decode cX9_plainSet 5 = .ok (.aload_n 0, 1) := by decide +kernel
theorem dX9_plainSet_6 : decode cX9_plainSet 6 = .ok (.iconst 0, 1) := by decide +kernel
theorem dX9_plainSet_7 : decode cX9_plainSet 7 = .ok (.iaload, 1) := by decide +kernel
theorem dX9_plainSet_8 : decode cX9_plainSet 8 = .ok (.if_icmp .ge 31, 3) := by decide +kernel
theorem dX9_plainSet_11 : decode cX9_plainSet 11 = .ok (.iload_n 1, 1) := by decide +kernel
theorem dX9_plainSet_12 : decode cX9_plainSet 12 = .ok (.aload_n 0, 1) := by decide +kernel
theorem dX9_plainSet_13 : decode cX9_plainSet 13 = .ok (.iload_n 2, 1) := by decide +kernel
theorem dX9_plainSet_14 : decode cX9_plainSet 14 = .ok (.iconst 3, 1) := by decide +kernel
theorem dX9_plainSet_15 : decode cX9_plainSet 15 = .ok (.invokestatic 52, 3) := by decide +kernel
theorem dX9_plainSet_18 : decode cX9_plainSet 18 = .ok (.iaload, 1) := by decide +kernel
theorem dX9_plainSet_19 : decode cX9_plainSet 19 = .ok (.bipush 9, 2) := by decide +kernel
theorem dX9_plainSet_21 : decode cX9_plainSet 21 = .ok (.if_icmp .ne 9, 3) := by decide +kernel
theorem dX9_plainSet_24 : decode cX9_plainSet 24 = .ok (.iconst 1, 1) := by decide +kernel
theorem dX9_plainSet_25 : decode cX9_plainSet 25 = .ok (.iload_n 2, 1) := by decide +kernel
theorem dX9_plainSet_26 : decode cX9_plainSet 26 = .ok (.ishl, 1) := by decide +kernel
theorem dX9_plainSet_27 : decode cX9_plainSet 27 = .ok (.goto 4, 3) := by decide +kernel
theorem dX9_plainSet_30 : decode cX9_plainSet 30 = .ok (.iconst 0, 1) := by decide +kernel
theorem dX9_plainSet_31 : decode cX9_plainSet 31 = .ok (.ior, 1) := by decide +kernel
theorem dX9_plainSet_32 : decode cX9_plainSet 32 = .ok (.istore_n 1, 1) := by decide +kernel
theorem dX9_plainSet_33 : decode cX9_plainSet 33 = .ok (.iinc 2 1, 3) := by decide +kernel
theorem dX9_plainSet_36 : decode cX9_plainSet 36 = .ok (.goto (-32), 3) := by decide +kernel
theorem dX9_plainSet_39 : decode cX9_plainSet 39 = .ok (.iload_n 1, 1) := by decide +kernel
theorem dX9_plainSet_40 : decode cX9_plainSet 40 = .ok (.ireturn, 1) := by decide +kernel
theorem dX9_chained_0 : decode cX9_chained 0 = .ok (.iload_n 1, 1) := by decide +kernel
theorem dX9_chained_1 : decode cX9_chained 1 = .ok (.iconst 0, 1) := by decide +kernel
theorem dX9_chained_2 : decode cX9_chained 2 = .ok (.iconst 2, 1) := by decide +kernel
theorem dX9_chained_3 : decode cX9_chained 3 = .ok (.invokestatic 44, 3) := by decide +kernel
theorem dX9_chained_6 : decode cX9_chained 6 = .ok (.ifCond .ne 10, 3) := by decide +kernel
theorem dX9_chained_9 : decode cX9_chained 9 = .ok (.aload_n 0, 1) := by decide +kernel
theorem dX9_chained_10 : decode cX9_chained 10 = .ok (.bipush (-2), 2) := by decide +kernel
theorem dX9_chained_12 : decode cX9_chained 12 = .ok (.invokevirtual 38, 3) := by decide +kernel
theorem dX9_chained_15 : decode cX9_chained 15 = .ok (.ireturn, 1) := by decide +kernel
theorem dX9_chained_16 : decode cX9_chained 16 = .ok (.iload_n 1, 1) := by decide +kernel
theorem dX9_chained_17 : decode cX9_chained 17 = .ok (.iconst 1, 1) := by decide +kernel
theorem dX9_chained_18 : decode cX9_chained 18 = .ok (.if_icmp .ne 11, 3) := by decide +kernel
theorem dX9_chained_21 : decode cX9_chained 21 = .ok (.aload_n 0, 1) := by decide +kernel
theorem dX9_chained_22 : decode cX9_chained 22 = .ok (.getfield 9, 3) := by decide +kernel
theorem dX9_chained_25 : decode cX9_chained 25 = .ok (.invokestatic 172, 3) := by decide +kernel
theorem dX9_chained_28 : decode cX9_chained 28 = .ok (.ireturn, 1) := by decide +kernel
theorem dX9_chained_29 : decode cX9_chained 29 = .ok (.iconst 0, 1) := by decide +kernel
theorem dX9_chained_30 : decode cX9_chained 30 = .ok (.istore_n 2, 1) := by decide +kernel
theorem dX9_chained_31 : decode cX9_chained 31 = .ok (.iconst 0, 1) := by decide +kernel
theorem dX9_chained_32 : decode cX9_chained 32 = .ok (.istore_n 3, 1) := by decide +kernel
theorem dX9_chained_33 : decode cX9_chained 33 = .ok (.iconst 0, 1) := by decide +kernel
theorem dX9_chained_34 : decode cX9_chained 34 = .ok (.istore 4, 2) := by decide +kernel
theorem dX9_chained_36 : decode cX9_chained 36 = .ok (.iload 4, 2) := by decide +kernel
theorem dX9_chained_38 : decode cX9_chained 38 = .ok (.aload_n 0, 1) := by decide +kernel
theorem dX9_chained_39 : decode cX9_chained 39 = .ok (.getfield 9, 3) := by decide +kernel
theorem dX9_chained_42 : decode cX9_chained 42 = .ok (.iconst 0, 1) := by decide +kernel
theorem dX9_chained_43 : decode cX9_chained 43 = .ok (.iaload, 1) := by decide +kernel
theorem dX9_chained_44 : decode cX9_chained 44 = .ok (.if_icmp .ge 62, 3) := by decide +kernel
theorem dX9_chained_47 : decode cX9_chained 47 = .ok (.aload_n 0, 1) := by decide +kernel
theorem dX9_chained_48 : decode cX9_chained 48 = .ok (.getfield 9, 3) := by decide +kernel
theorem dX9_chained_51 : decode cX9_chained 51 = .ok (.iload 4, 2) := by decide +kernel
theorem dX9_chained_53 : decode cX9_chained 53 = .ok (.iconst 3, 1) := by decide +kernel
theorem dX9_chained_54 : decode cX9_chained 54 = .ok (.invokestatic 52, 3) := by decide +kernel
theorem dX9_chained_57 : decode cX9_chained 57 = .ok (.iaload, 1) := by decide +kernel
theorem dX9_chained_58 : decode cX9_chained 58 = .ok (.istore 5, 2) := by decide +kernel
theorem dX9_chained_60 : decode cX9_chained 60 = .ok (.iload_n 2, 1) := by decide +kernel
theorem dX9_chained_61 : decode cX9_chained 61 = .ok (.iload 5, 2) := by decide +kernel
theorem dX9_chained_63 : decode cX9_chained 63 = .ok (.bipush 9, 2) := by decide +kernel
theorem dX9_chained_65 : decode cX9_chained 65 = .ok (.if_icmp .eq 14, 3) := by decide +kernel
theorem dX9_chained_68 : decode cX9_chained 68 = .ok (.iload 5, 2) := by decide +kernel
theorem dX9_chained_70 : decode cX9_chained 70 = .ok (.iload 4, 2) := by decide +kernel
theorem dX9_chained_72 : decode cX9_chained 72 = .ok (.if_icmp .eq 7, 3) := by decide +kernel
theorem dX9_chained_75 : decode cX9_chained 75 = .ok (.iconst 1, 1) := by decide +kernel
theorem dX9_chained_76 : decode cX9_chained 76 = .ok (.goto 4, 3) := by decide +kernel
theorem dX9_chained_79 : decode cX9_chained 79 = .ok (.iconst 0, 1) := by decide +kernel
theorem dX9_chained_80 : decode cX9_chained 80 = .ok (.iadd, 1) := by decide +kernel
theorem dX9_chained_81 : decode cX9_chained 81 = .ok (.istore_n 2, 1) := by decide +kernel
theorem dX9_chained_82 : decode cX9_chained 82 = .ok (.iload_n 3, 1) := by decide +kernel
theorem dX9_chained_83 : decode cX9_chained 83 = .ok (.iload 5, 2) := by decide +kernel
theorem dX9_chained_85 : decode cX9_chained 85 = .ok (.bipush 9, 2) := by decide +kernel
theorem dX9_chained_87 : decode cX9_chained 87 = .ok (.if_icmp .ne 7, 3) := by decide +kernel
theorem dX9_chained_90 : decode cX9_chained 90 = .ok (.iconst 0, 1) := by decide +kernel
theorem dX9_chained_91 : decode cX9_chained 91 = .ok (.goto 7, 3) := by decide +kernel
theorem dX9_chained_94 : decode cX9_chained 94 = .ok (.iconst 1, 1) := by decide +kernel
theorem dX9_chained_95 : decode cX9_chained 95 = .ok (.iload 5, 2) := by decide +kernel
theorem dX9_chained_97 : decode cX9_chained 97 = .ok (.ishl, 1) := by decide +kernel
theorem dX9_chained_98 : decode cX9_chained 98 = .ok (.ior, 1) := by decide +kernel
theorem dX9_chained_99 : decode cX9_chained 99 = .ok (.istore_n 3, 1) := by decide +kernel
theorem dX9_chained_100 : decode cX9_chained 100 = .ok (.iinc 4 1, 3) := by decide +kernel
theorem dX9_chained_103 : decode cX9_chained 103 = .ok (.goto (-67), 3) := by decide +kernel
theorem dX9_chained_106 : decode cX9_chained 106 = .ok (.iload_n 1, 1) := by decide +kernel
theorem dX9_chained_107 : decode cX9_chained 107 = .ok (.ifCond .ne 7, 3) := by decide +kernel
theorem dX9_chained_110 : decode cX9_chained 110 = .ok (.iload_n 2, 1) := by decide +kernel
theorem dX9_chained_111 : decode cX9_chained 111 = .ok (.goto 4, 3) := by decide +kernel
theorem dX9_chained_114 : decode cX9_chained 114 = .ok (.iload_n 3, 1) := by decide +kernel
theorem dX9_chained_115 : decode cX9_chained 115 = .ok (.ireturn, 1) := by decide +kernel
theorem dX9_pairsBy_0 : decode cX9_pairsBy 0 = .ok (.aload_n 0, 1) := by decide +kernel
theorem dX9_pairsBy_1 : decode cX9_pairsBy 1 = .ok (.getfield 9, 3) := by decide +kernel
theorem dX9_pairsBy_4 : decode cX9_pairsBy 4 = .ok (.aload_n 0, 1) := by decide +kernel
theorem dX9_pairsBy_5 : decode cX9_pairsBy 5 = .ok (.getfield 13, 3) := by decide +kernel
theorem dX9_pairsBy_8 : decode cX9_pairsBy 8 = .ok (.invokestatic 133, 3) := by decide +kernel
theorem dX9_pairsBy_11 : decode cX9_pairsBy 11 = .ok (.iconst 0, 1) := by decide +kernel
theorem dX9_pairsBy_12 : decode cX9_pairsBy 12 = .ok (.istore_n 2, 1) := by decide +kernel
theorem dX9_pairsBy_13 : decode cX9_pairsBy 13 = .ok (.bipush (-9), 2) := by decide +kernel
theorem dX9_pairsBy_15 : decode cX9_pairsBy 15 = .ok (.istore_n 3, 1) := by decide +kernel
theorem dX9_pairsBy_16 : decode cX9_pairsBy 16 = .ok (.iconst 0, 1) := by decide +kernel
theorem dX9_pairsBy_17 : decode cX9_pairsBy 17 = .ok (.istore 4, 2) := by decide +kernel
theorem dX9_pairsBy_19 : decode cX9_pairsBy 19 = .ok (.iload 4, 2) := by decide +kernel
theorem dX9_pairsBy_21 : decode cX9_pairsBy 21 = .ok (.aload_n 0, 1) := by decide +kernel
theorem dX9_pairsBy_22 : decode cX9_pairsBy 22 = .ok (.getfield 9, 3) := by decide +kernel
theorem dX9_pairsBy_25 : decode cX9_pairsBy 25 = .ok (.iconst 0, 1) := by decide +kernel
theorem dX9_pairsBy_26 : decode cX9_pairsBy 26 = .ok (.iaload, 1) := by decide +kernel
theorem dX9_pairsBy_27 : decode cX9_pairsBy 27 = .ok (.if_icmp .ge 75, 3) := by decide +kernel
theorem dX9_pairsBy_30 : decode cX9_pairsBy 30 = .ok (.aload_n 0, 1) := by decide +kernel
theorem dX9_pairsBy_31 : decode cX9_pairsBy 31 = .ok (.getfield 9, 3) := by decide +kernel
theorem dX9_pairsBy_34 : decode cX9_pairsBy 34 = .ok (.iload 4, 2) := by decide +kernel
theorem dX9_pairsBy_36 : decode cX9_pairsBy 36 = .ok (.invokestatic 64, 3) := by decide +kernel
theorem dX9_pairsBy_39 : decode cX9_pairsBy 39 = .ok (.ifCond .ne 6, 3) := by decide +kernel
theorem dX9_pairsBy_42 : decode cX9_pairsBy 42 = .ok (.goto 54, 3) := by decide +kernel
theorem dX9_pairsBy_45 : decode cX9_pairsBy 45 = .ok (.iload_n 3, 1) := by decide +kernel
theorem dX9_pairsBy_46 : decode cX9_pairsBy 46 = .ok (.ifCond .ge 9, 3) := by decide +kernel
theorem dX9_pairsBy_49 : decode cX9_pairsBy 49 = .ok (.iload 4, 2) := by decide +kernel
theorem dX9_pairsBy_51 : decode cX9_pairsBy 51 = .ok (.istore_n 3, 1) := by decide +kernel
theorem dX9_pairsBy_52 : decode cX9_pairsBy 52 = .ok (.goto 44, 3) := by decide +kernel
theorem dX9_pairsBy_55 : decode cX9_pairsBy 55 = .ok (.aload_n 0, 1) := by decide +kernel
theorem dX9_pairsBy_56 : decode cX9_pairsBy 56 = .ok (.getfield 13, 3) := by decide +kernel
theorem dX9_pairsBy_59 : decode cX9_pairsBy 59 = .ok (.iload_n 1, 1) := by decide +kernel
theorem dX9_pairsBy_60 : decode cX9_pairsBy 60 = .ok (.iload_n 2, 1) := by decide +kernel
theorem dX9_pairsBy_61 : decode cX9_pairsBy 61 = .ok (.invokestatic 56, 3) := by decide +kernel
theorem dX9_pairsBy_64 : decode cX9_pairsBy 64 = .ok (.ifCond .eq 8, 3) := by decide +kernel
theorem dX9_pairsBy_67 : decode cX9_pairsBy 67 = .ok (.iload 4, 2) := by decide +kernel
theorem dX9_pairsBy_69 : decode cX9_pairsBy 69 = .ok (.goto 4, 3) := by decide +kernel
theorem dX9_pairsBy_72 : decode cX9_pairsBy 72 = .ok (.iload_n 3, 1) := by decide +kernel
theorem dX9_pairsBy_73 : decode cX9_pairsBy 73 = .ok (.iload_n 1, 1) := by decide +kernel
theorem dX9_pairsBy_74 : decode cX9_pairsBy 74 = .ok (.iload_n 2, 1) := by decide +kernel
theorem dX9_pairsBy_75 : decode cX9_pairsBy 75 = .ok (.invokestatic 56, 3) := by decide +kernel
theorem dX9_pairsBy_78 : decode cX9_pairsBy 78 = .ok (.ifCond .eq 7, 3) := by decide +kernel
theorem dX9_pairsBy_81 : decode cX9_pairsBy 81 = .ok (.iload_n 3, 1) := by decide +kernel
theorem dX9_pairsBy_82 : decode cX9_pairsBy 82 = .ok (.goto 5, 3) := by decide +kernel
theorem dX9_pairsBy_85 : decode cX9_pairsBy 85 = .ok (.iload 4, 2) := by decide +kernel
theorem dX9_pairsBy_87 : decode cX9_pairsBy 87 = .ok (.invokestatic 122, 3) := by decide +kernel
theorem dX9_pairsBy_90 : decode cX9_pairsBy 90 = .ok (.bipush (-9), 2) := by decide +kernel
theorem dX9_pairsBy_92 : decode cX9_pairsBy 92 = .ok (.istore_n 3, 1) := by decide +kernel
theorem dX9_pairsBy_93 : decode cX9_pairsBy 93 = .ok (.iinc 2 1, 3) := by decide +kernel
theorem dX9_pairsBy_96 : decode cX9_pairsBy 96 = .ok (.iinc 4 1, 3) := by decide +kernel
theorem dX9_pairsBy_99 : decode cX9_pairsBy 99 = .ok (.goto (-80), 3) := by decide +kernel
theorem dX9_pairsBy_102 : decode cX9_pairsBy 102 = .ok (.iload_n 2, 1) := by decide +kernel
theorem dX9_pairsBy_103 : decode cX9_pairsBy 103 = .ok (.ireturn, 1) := by decide +kernel
theorem dX9_lot_0 : decode cX9_lot 0 = .ok (.iload_n 1, 1) := by decide +kernel
theorem dX9_lot_1 : decode cX9_lot 1 = .ok (.iconst 0, 1) := by decide +kernel
theorem dX9_lot_2 : decode cX9_lot 2 = .ok (.iconst 1, 1) := by decide +kernel
theorem dX9_lot_3 : decode cX9_lot 3 = .ok (.invokestatic 44, 3) := by decide +kernel
theorem dX9_lot_6 : decode cX9_lot 6 = .ok (.ifCond .ne 10, 3) := by decide +kernel
theorem dX9_lot_9 : decode cX9_lot 9 = .ok (.aload_n 0, 1) := by decide +kernel
theorem dX9_lot_10 : decode cX9_lot 10 = .ok (.bipush (-2), 2) := by decide +kernel
theorem dX9_lot_12 : decode cX9_lot 12 = .ok (.invokevirtual 143, 3) := by decide +kernel
theorem dX9_lot_15 : decode cX9_lot 15 = .ok (.ireturn, 1) := by decide +kernel
theorem dX9_lot_16 : decode cX9_lot 16 = .ok (.aload_n 0, 1) := by decide +kernel
theorem dX9_lot_17 : decode cX9_lot 17 = .ok (.iconst 0, 1) := by decide +kernel
theorem dX9_lot_18 : decode cX9_lot 18 = .ok (.invokevirtual 175, 3) := by decide +kernel
theorem dX9_lot_21 : decode cX9_lot 21 = .ok (.istore_n 2, 1) := by decide +kernel
theorem dX9_lot_22 : decode cX9_lot 22 = .ok (.iconst 0, 1) := by decide +kernel
theorem dX9_lot_23 : decode cX9_lot 23 = .ok (.istore_n 3, 1) := by decide +kernel
theorem dX9_lot_24 : decode cX9_lot 24 = .ok (.ldc 178, 2) := by decide +kernel
theorem dX9_lot_26 : decode cX9_lot 26 = .ok (.istore 4, 2) := by decide +kernel
theorem dX9_lot_28 : decode cX9_lot 28 = .ok (.iconst 0, 1) := by decide +kernel
theorem dX9_lot_29 : decode cX9_lot 29 = .ok (.istore 5, 2) := by decide +kernel
theorem dX9_lot_31 : decode cX9_lot 31 = .ok (.iload 5, 2) := by decide +kernel
theorem dX9_lot_33 : decode cX9_lot 33 = .ok (.iconst 1, 1) := by decide +kernel
theorem dX9_lot_34 : decode cX9_lot 34 = .ok (.iload_n 2, 1) := by decide +kernel
theorem dX9_lot_35 : decode cX9_lot 35 = .ok (.ishl, 1) := by decide +kernel
theorem dX9_lot_36 : decode cX9_lot 36 = .ok (.if_icmp .ge 44, 3) := by decide +kernel
theorem dX9_lot_39 : decode cX9_lot 39 = .ok (.aload_n 0, 1) := by decide +kernel
theorem dX9_lot_40 : decode cX9_lot 40 = .ok (.iload 5, 2) := by decide +kernel
theorem dX9_lot_42 : decode cX9_lot 42 = .ok (.invokevirtual 175, 3) := by decide +kernel
theorem dX9_lot_45 : decode cX9_lot 45 = .ok (.istore 6, 2) := by decide +kernel
theorem dX9_lot_47 : decode cX9_lot 47 = .ok (.aload_n 0, 1) := by decide +kernel
theorem dX9_lot_48 : decode cX9_lot 48 = .ok (.bipush (-9), 2) := by decide +kernel
theorem dX9_lot_50 : decode cX9_lot 50 = .ok (.bipush 12, 2) := by decide +kernel
theorem dX9_lot_52 : decode cX9_lot 52 = .ok (.invokevirtual 163, 3) := by decide +kernel
theorem dX9_lot_55 : decode cX9_lot 55 = .ok (.istore 7, 2) := by decide +kernel
theorem dX9_lot_57 : decode cX9_lot 57 = .ok (.iload 7, 2) := by decide +kernel
theorem dX9_lot_59 : decode cX9_lot 59 = .ok (.iload 4, 2) := by decide +kernel
theorem dX9_lot_61 : decode cX9_lot 61 = .ok (.if_icmp .gt 6, 3) := by decide +kernel
theorem dX9_lot_64 : decode cX9_lot 64 = .ok (.goto 10, 3) := by decide +kernel
theorem dX9_lot_67 : decode cX9_lot 67 = .ok (.iload 5, 2) := by decide +kernel
theorem dX9_lot_69 : decode cX9_lot 69 = .ok (.istore_n 3, 1) := by decide +kernel
theorem dX9_lot_70 : decode cX9_lot 70 = .ok (.iload 7, 2) := by decide +kernel
theorem dX9_lot_72 : decode cX9_lot 72 = .ok (.istore 4, 2) := by decide +kernel
theorem dX9_lot_74 : decode cX9_lot 74 = .ok (.iinc 5 1, 3) := by decide +kernel
theorem dX9_lot_77 : decode cX9_lot 77 = .ok (.goto (-46), 3) := by decide +kernel
theorem dX9_lot_80 : decode cX9_lot 80 = .ok (.iload_n 1, 1) := by decide +kernel
theorem dX9_lot_81 : decode cX9_lot 81 = .ok (.ifCond .ne 7, 3) := by decide +kernel
theorem dX9_lot_84 : decode cX9_lot 84 = .ok (.iload_n 3, 1) := by decide +kernel
theorem dX9_lot_85 : decode cX9_lot 85 = .ok (.goto 5, 3) := by decide +kernel
theorem dX9_lot_88 : decode cX9_lot 88 = .ok (.iload 4, 2) := by decide +kernel
theorem dX9_lot_90 : decode cX9_lot 90 = .ok (.ireturn, 1) := by decide +kernel
theorem dX9_isFamedBehind_0 : decode cX9_isFamedBehind 0 = .ok (.aload_n 1, 1) := by decide +kernel
theorem dX9_isFamedBehind_1 : decode cX9_isFamedBehind 1 = .ok (.aload_n 0, 1) := by decide +kernel
theorem dX9_isFamedBehind_2 : decode cX9_isFamedBehind 2 = .ok (.getfield 13, 3) := by decide +kernel
theorem dX9_isFamedBehind_5 : decode cX9_isFamedBehind 5 = .ok (.invokestatic 133, 3) := by decide +kernel
theorem dX9_isFamedBehind_8 : decode cX9_isFamedBehind 8 = .ok (.aload_n 0, 1) := by decide +kernel
theorem dX9_isFamedBehind_9 : decode cX9_isFamedBehind 9 = .ok (.getfield 13, 3) := by decide +kernel
theorem dX9_isFamedBehind_12 : decode cX9_isFamedBehind 12 = .ok (.bipush 12, 2) := by decide +kernel
theorem dX9_isFamedBehind_14 : decode cX9_isFamedBehind 14 = .ok (.invokestatic 126, 3) := by decide +kernel
theorem dX9_isFamedBehind_17 : decode cX9_isFamedBehind 17 = .ok (.aload_n 0, 1) := by decide +kernel
theorem dX9_isFamedBehind_18 : decode cX9_isFamedBehind 18 = .ok (.getfield 13, 3) := by decide +kernel
theorem dX9_isFamedBehind_21 : decode cX9_isFamedBehind 21 = .ok (.iload_n 2, 1) := by decide +kernel
theorem dX9_isFamedBehind_22 : decode cX9_isFamedBehind 22 = .ok (.iconst 4, 1) := by decide +kernel
theorem dX9_isFamedBehind_23 : decode cX9_isFamedBehind 23 = .ok (.invokestatic 52, 3) := by decide +kernel
theorem dX9_isFamedBehind_26 : decode cX9_isFamedBehind 26 = .ok (.iaload, 1) := by decide +kernel
theorem dX9_isFamedBehind_27 : decode cX9_isFamedBehind 27 = .ok (.iload_n 3, 1) := by decide +kernel
theorem dX9_isFamedBehind_28 : decode cX9_isFamedBehind 28 = .ok (.if_icmp .lt 7, 3) := by decide +kernel
theorem dX9_isFamedBehind_31 : decode cX9_isFamedBehind 31 = .ok (.iconst 1, 1) := by decide +kernel
theorem dX9_isFamedBehind_32 : decode cX9_isFamedBehind 32 = .ok (.goto 4, 3) := by decide +kernel
theorem dX9_isFamedBehind_35 : decode cX9_isFamedBehind 35 = .ok (.iconst 0, 1) := by decide +kernel
theorem dX9_isFamedBehind_36 : decode cX9_isFamedBehind 36 = .ok (.ireturn, 1) := by decide +kernel
theorem dX9_canBeBy_0 : decode cX9_canBeBy 0 = .ok (.iconst 0, 1) := by decide +kernel
theorem dX9_canBeBy_1 : decode cX9_canBeBy 1 = .ok (.istore_n 3, 1) := by decide +kernel
theorem dX9_canBeBy_2 : decode cX9_canBeBy 2 = .ok (.iload_n 3, 1) := by decide +kernel
theorem dX9_canBeBy_3 : decode cX9_canBeBy 3 = .ok (.aload_n 0, 1) := by decide +kernel
theorem dX9_canBeBy_4 : decode cX9_canBeBy 4 = .ok (.getfield 9, 3) := by decide +kernel
theorem dX9_canBeBy_7 : decode cX9_canBeBy 7 = .ok (.iconst 0, 1) := by decide +kernel
theorem dX9_canBeBy_8 : decode cX9_canBeBy 8 = .ok (.iaload, 1) := by decide +kernel
theorem dX9_canBeBy_9 : decode cX9_canBeBy 9 = .ok (.if_icmp .ge 81, 3) := by decide +kernel
theorem dX9_canBeBy_12 : decode cX9_canBeBy 12 = .ok (.iconst 0, 1) := by decide +kernel
theorem dX9_canBeBy_13 : decode cX9_canBeBy 13 = .ok (.istore 4, 2) := by decide +kernel
theorem dX9_canBeBy_15 : decode cX9_canBeBy 15 = .ok (.iload 4, 2) := by decide +kernel
theorem dX9_canBeBy_17 : decode cX9_canBeBy 17 = .ok (.aload_n 0, 1) := by decide +kernel
theorem dX9_canBeBy_18 : decode cX9_canBeBy 18 = .ok (.getfield 9, 3) := by decide +kernel
theorem dX9_canBeBy_21 : decode cX9_canBeBy 21 = .ok (.iconst 0, 1) := by decide +kernel
theorem dX9_canBeBy_22 : decode cX9_canBeBy 22 = .ok (.iaload, 1) := by decide +kernel
theorem dX9_canBeBy_23 : decode cX9_canBeBy 23 = .ok (.if_icmp .ge 61, 3) := by decide +kernel
theorem dX9_canBeBy_26 : decode cX9_canBeBy 26 = .ok (.aload_n 0, 1) := by decide +kernel
theorem dX9_canBeBy_27 : decode cX9_canBeBy 27 = .ok (.getfield 22, 3) := by decide +kernel
theorem dX9_canBeBy_30 : decode cX9_canBeBy 30 = .ok (.iload_n 3, 1) := by decide +kernel
theorem dX9_canBeBy_31 : decode cX9_canBeBy 31 = .ok (.iload 4, 2) := by decide +kernel
theorem dX9_canBeBy_33 : decode cX9_canBeBy 33 = .ok (.invokestatic 118, 3) := by decide +kernel
theorem dX9_canBeBy_36 : decode cX9_canBeBy 36 = .ok (.ifCond .ne 6, 3) := by decide +kernel
theorem dX9_canBeBy_39 : decode cX9_canBeBy 39 = .ok (.goto 39, 3) := by decide +kernel
theorem dX9_canBeBy_42 : decode cX9_canBeBy 42 = .ok (.aload_n 0, 1) := by decide +kernel
theorem dX9_canBeBy_43 : decode cX9_canBeBy 43 = .ok (.getfield 22, 3) := by decide +kernel
theorem dX9_canBeBy_46 : decode cX9_canBeBy 46 = .ok (.aload_n 0, 1) := by decide +kernel
theorem dX9_canBeBy_47 : decode cX9_canBeBy 47 = .ok (.getfield 19, 3) := by decide +kernel
theorem dX9_canBeBy_50 : decode cX9_canBeBy 50 = .ok (.invokestatic 133, 3) := by decide +kernel
theorem dX9_canBeBy_53 : decode cX9_canBeBy 53 = .ok (.aload_n 0, 1) := by decide +kernel
theorem dX9_canBeBy_54 : decode cX9_canBeBy 54 = .ok (.getfield 19, 3) := by decide +kernel
theorem dX9_canBeBy_57 : decode cX9_canBeBy 57 = .ok (.iload_n 3, 1) := by decide +kernel
theorem dX9_canBeBy_58 : decode cX9_canBeBy 58 = .ok (.iload 4, 2) := by decide +kernel
theorem dX9_canBeBy_60 : decode cX9_canBeBy 60 = .ok (.invokestatic 122, 3) := by decide +kernel
theorem dX9_canBeBy_63 : decode cX9_canBeBy 63 = .ok (.aload_n 0, 1) := by decide +kernel
theorem dX9_canBeBy_64 : decode cX9_canBeBy 64 = .ok (.aload_n 0, 1) := by decide +kernel
theorem dX9_canBeBy_65 : decode cX9_canBeBy 65 = .ok (.getfield 19, 3) := by decide +kernel
theorem dX9_canBeBy_68 : decode cX9_canBeBy 68 = .ok (.iload_n 1, 1) := by decide +kernel
theorem dX9_canBeBy_69 : decode cX9_canBeBy 69 = .ok (.iload_n 2, 1) := by decide +kernel
theorem dX9_canBeBy_70 : decode cX9_canBeBy 70 = .ok (.invokevirtual 179, 3) := by decide +kernel
theorem dX9_canBeBy_73 : decode cX9_canBeBy 73 = .ok (.ifCond .eq 5, 3) := by decide +kernel
theorem dX9_canBeBy_76 : decode cX9_canBeBy 76 = .ok (.iconst 1, 1) := by decide +kernel
theorem dX9_canBeBy_77 : decode cX9_canBeBy 77 = .ok (.ireturn, 1) := by decide +kernel
theorem dX9_canBeBy_78 : decode cX9_canBeBy 78 = .ok (.iinc 4 1, 3) := by decide +kernel
theorem dX9_canBeBy_81 : decode cX9_canBeBy 81 = .ok (.goto (-66), 3) := by decide +kernel
theorem dX9_canBeBy_84 : decode cX9_canBeBy 84 = .ok (.iinc 3 1, 3) := by decide +kernel
theorem dX9_canBeBy_87 : decode cX9_canBeBy 87 = .ok (.goto (-85), 3) := by decide +kernel
theorem dX9_canBeBy_90 : decode cX9_canBeBy 90 = .ok (.iconst 0, 1) := by decide +kernel
theorem dX9_canBeBy_91 : decode cX9_canBeBy 91 = .ok (.ireturn, 1) := by decide +kernel
theorem dX9_firstLender_0 : decode cX9_firstLender 0 = .ok (.iconst 0, 1) := by decide +kernel
theorem dX9_firstLender_1 : decode cX9_firstLender 1 = .ok (.istore 4, 2) := by decide +kernel
theorem dX9_firstLender_3 : decode cX9_firstLender 3 = .ok (.iload 4, 2) := by decide +kernel
theorem dX9_firstLender_5 : decode cX9_firstLender 5 = .ok (.aload_n 0, 1) := by decide +kernel
theorem dX9_firstLender_6 : decode cX9_firstLender 6 = .ok (.getfield 9, 3) := by decide +kernel
theorem dX9_firstLender_9 : decode cX9_firstLender 9 = .ok (.iconst 0, 1) := by decide +kernel
theorem dX9_firstLender_10 : decode cX9_firstLender 10 = .ok (.iaload, 1) := by decide +kernel
theorem dX9_firstLender_11 : decode cX9_firstLender 11 = .ok (.if_icmp .ge 101, 3) := by decide +kernel
theorem dX9_firstLender_14 : decode cX9_firstLender 14 = .ok (.iconst 0, 1) := by decide +kernel
theorem dX9_firstLender_15 : decode cX9_firstLender 15 = .ok (.istore 5, 2) := by decide +kernel
theorem dX9_firstLender_17 : decode cX9_firstLender 17 = .ok (.iload 5, 2) := by decide +kernel
theorem dX9_firstLender_19 : decode cX9_firstLender 19 = .ok (.aload_n 0, 1) := by decide +kernel
theorem dX9_firstLender_20 : decode cX9_firstLender 20 = .ok (.getfield 9, 3) := by decide +kernel
theorem dX9_firstLender_23 : decode cX9_firstLender 23 = .ok (.iconst 0, 1) := by decide +kernel
theorem dX9_firstLender_24 : decode cX9_firstLender 24 = .ok (.iaload, 1) := by decide +kernel
theorem dX9_firstLender_25 : decode cX9_firstLender 25 = .ok (.if_icmp .ge 81, 3) := by decide +kernel
theorem dX9_firstLender_28 : decode cX9_firstLender 28 = .ok (.aload_n 0, 1) := by decide +kernel
theorem dX9_firstLender_29 : decode cX9_firstLender 29 = .ok (.getfield 9, 3) := by decide +kernel
theorem dX9_firstLender_32 : decode cX9_firstLender 32 = .ok (.iload 4, 2) := by decide +kernel
theorem dX9_firstLender_34 : decode cX9_firstLender 34 = .ok (.iload 5, 2) := by decide +kernel
theorem dX9_firstLender_36 : decode cX9_firstLender 36 = .ok (.invokestatic 118, 3) := by decide +kernel
theorem dX9_firstLender_39 : decode cX9_firstLender 39 = .ok (.ifCond .ne 6, 3) := by decide +kernel
theorem dX9_firstLender_42 : decode cX9_firstLender 42 = .ok (.goto 58, 3) := by decide +kernel
theorem dX9_firstLender_45 : decode cX9_firstLender 45 = .ok (.aload_n 0, 1) := by decide +kernel
theorem dX9_firstLender_46 : decode cX9_firstLender 46 = .ok (.getfield 9, 3) := by decide +kernel
theorem dX9_firstLender_49 : decode cX9_firstLender 49 = .ok (.aload_n 0, 1) := by decide +kernel
theorem dX9_firstLender_50 : decode cX9_firstLender 50 = .ok (.getfield 22, 3) := by decide +kernel
theorem dX9_firstLender_53 : decode cX9_firstLender 53 = .ok (.invokestatic 133, 3) := by decide +kernel
theorem dX9_firstLender_56 : decode cX9_firstLender 56 = .ok (.aload_n 0, 1) := by decide +kernel
theorem dX9_firstLender_57 : decode cX9_firstLender 57 = .ok (.getfield 22, 3) := by decide +kernel
theorem dX9_firstLender_60 : decode cX9_firstLender 60 = .ok (.iload 4, 2) := by decide +kernel
theorem dX9_firstLender_62 : decode cX9_firstLender 62 = .ok (.iload 5, 2) := by decide +kernel
theorem dX9_firstLender_64 : decode cX9_firstLender 64 = .ok (.invokestatic 122, 3) := by decide +kernel
theorem dX9_firstLender_67 : decode cX9_firstLender 67 = .ok (.iload_n 3, 1) := by decide +kernel
theorem dX9_firstLender_68 : decode cX9_firstLender 68 = .ok (.iconst 1, 1) := by decide +kernel
theorem dX9_firstLender_69 : decode cX9_firstLender 69 = .ok (.if_icmp .ne 19, 3) := by decide +kernel
theorem dX9_firstLender_72 : decode cX9_firstLender 72 = .ok (.aload_n 0, 1) := by decide +kernel
theorem dX9_firstLender_73 : decode cX9_firstLender 73 = .ok (.aload_n 0, 1) := by decide +kernel
theorem dX9_firstLender_74 : decode cX9_firstLender 74 = .ok (.getfield 22, 3) := by decide +kernel
theorem dX9_firstLender_77 : decode cX9_firstLender 77 = .ok (.iload_n 1, 1) := by decide +kernel
theorem dX9_firstLender_78 : decode cX9_firstLender 78 = .ok (.iload_n 2, 1) := by decide +kernel
theorem dX9_firstLender_79 : decode cX9_firstLender 79 = .ok (.invokevirtual 179, 3) := by decide +kernel
theorem dX9_firstLender_82 : decode cX9_firstLender 82 = .ok (.ifCond .eq 18, 3) := by decide +kernel
theorem dX9_firstLender_85 : decode cX9_firstLender 85 = .ok (.goto 12, 3) := by decide +kernel
theorem dX9_firstLender_88 : decode cX9_firstLender 88 = .ok (.aload_n 0, 1) := by decide +kernel
theorem dX9_firstLender_89 : decode cX9_firstLender 89 = .ok (.iload_n 1, 1) := by decide +kernel
theorem dX9_firstLender_90 : decode cX9_firstLender 90 = .ok (.iload_n 2, 1) := by decide +kernel
theorem dX9_firstLender_91 : decode cX9_firstLender 91 = .ok (.invokevirtual 182, 3) := by decide +kernel
theorem dX9_firstLender_94 : decode cX9_firstLender 94 = .ok (.ifCond .eq 6, 3) := by decide +kernel
theorem dX9_firstLender_97 : decode cX9_firstLender 97 = .ok (.iload 4, 2) := by decide +kernel
theorem dX9_firstLender_99 : decode cX9_firstLender 99 = .ok (.ireturn, 1) := by decide +kernel
theorem dX9_firstLender_100 : decode cX9_firstLender 100 = .ok (.iinc 5 1, 3) := by decide +kernel
theorem dX9_firstLender_103 : decode cX9_firstLender 103 = .ok (.goto (-86), 3) := by decide +kernel
theorem dX9_firstLender_106 : decode cX9_firstLender 106 = .ok (.iinc 4 1, 3) := by decide +kernel
theorem dX9_firstLender_109 : decode cX9_firstLender 109 = .ok (.goto (-106), 3) := by decide +kernel
theorem dX9_firstLender_112 : decode cX9_firstLender 112 = .ok (.bipush (-9), 2) := by decide +kernel
theorem dX9_firstLender_114 : decode cX9_firstLender 114 = .ok (.ireturn, 1) := by decide +kernel
theorem dX9_fewest_0 : decode cX9_fewest 0 = .ok (.aload_n 0, 1) := by decide +kernel
theorem dX9_fewest_1 : decode cX9_fewest 1 = .ok (.iload_n 1, 1) := by decide +kernel
theorem dX9_fewest_2 : decode cX9_fewest 2 = .ok (.invokevirtual 48, 3) := by decide +kernel
theorem dX9_fewest_5 : decode cX9_fewest 5 = .ok (.ifCond .eq 12, 3) := by decide +kernel
theorem dX9_fewest_8 : decode cX9_fewest 8 = .ok (.iload_n 2, 1) := by decide +kernel
theorem dX9_fewest_9 : decode cX9_fewest 9 = .ok (.bipush 99, 2) := by decide +kernel
theorem dX9_fewest_11 : decode cX9_fewest 11 = .ok (.invokestatic 150, 3) := by decide +kernel
theorem dX9_fewest_14 : decode cX9_fewest 14 = .ok (.goto 4, 3) := by decide +kernel
theorem dX9_fewest_17 : decode cX9_fewest 17 = .ok (.iconst (-1), 1) := by decide +kernel
theorem dX9_fewest_18 : decode cX9_fewest 18 = .ok (.istore 4, 2) := by decide +kernel
theorem dX9_fewest_20 : decode cX9_fewest 20 = .ok (.iload 4, 2) := by decide +kernel
theorem dX9_fewest_22 : decode cX9_fewest 22 = .ok (.ifCond .ne 16, 3) := by decide +kernel
theorem dX9_fewest_25 : decode cX9_fewest 25 = .ok (.iload_n 3, 1) := by decide +kernel
theorem dX9_fewest_26 : decode cX9_fewest 26 = .ok (.iconst 0, 1) := by decide +kernel
theorem dX9_fewest_27 : decode cX9_fewest 27 = .ok (.iconst 1, 1) := by decide +kernel
theorem dX9_fewest_28 : decode cX9_fewest 28 = .ok (.invokestatic 44, 3) := by decide +kernel
theorem dX9_fewest_31 : decode cX9_fewest 31 = .ok (.ifCond .ne 7, 3) := by decide +kernel
theorem dX9_fewest_34 : decode cX9_fewest 34 = .ok (.bipush (-2), 2) := by decide +kernel
theorem dX9_fewest_36 : decode cX9_fewest 36 = .ok (.istore 4, 2) := by decide +kernel
theorem dX9_fewest_38 : decode cX9_fewest 38 = .ok (.iload 4, 2) := by decide +kernel
theorem dX9_fewest_40 : decode cX9_fewest 40 = .ok (.ifCond .eq 10, 3) := by decide +kernel
theorem dX9_fewest_43 : decode cX9_fewest 43 = .ok (.aload_n 0, 1) := by decide +kernel
theorem dX9_fewest_44 : decode cX9_fewest 44 = .ok (.iload 4, 2) := by decide +kernel
theorem dX9_fewest_46 : decode cX9_fewest 46 = .ok (.invokevirtual 38, 3) := by decide +kernel
theorem dX9_fewest_49 : decode cX9_fewest 49 = .ok (.ireturn, 1) := by decide +kernel
theorem dX9_fewest_50 : decode cX9_fewest 50 = .ok (.aload_n 0, 1) := by decide +kernel
theorem dX9_fewest_51 : decode cX9_fewest 51 = .ok (.aload_n 0, 1) := by decide +kernel
theorem dX9_fewest_52 : decode cX9_fewest 52 = .ok (.getfield 9, 3) := by decide +kernel
theorem dX9_fewest_55 : decode cX9_fewest 55 = .ok (.iload_n 1, 1) := by decide +kernel
theorem dX9_fewest_56 : decode cX9_fewest 56 = .ok (.iload_n 2, 1) := by decide +kernel
theorem dX9_fewest_57 : decode cX9_fewest 57 = .ok (.invokevirtual 179, 3) := by decide +kernel
theorem dX9_fewest_60 : decode cX9_fewest 60 = .ok (.ifCond .eq 14, 3) := by decide +kernel
theorem dX9_fewest_63 : decode cX9_fewest 63 = .ok (.iload_n 3, 1) := by decide +kernel
theorem dX9_fewest_64 : decode cX9_fewest 64 = .ok (.ifCond .ne 7, 3) := by decide +kernel
theorem dX9_fewest_67 : decode cX9_fewest 67 = .ok (.iconst 0, 1) := by decide +kernel
theorem dX9_fewest_68 : decode cX9_fewest 68 = .ok (.goto 5, 3) := by decide +kernel
theorem dX9_fewest_71 : decode cX9_fewest 71 = .ok (.bipush (-9), 2) := by decide +kernel
theorem dX9_fewest_73 : decode cX9_fewest 73 = .ok (.ireturn, 1) := by decide +kernel
theorem dX9_fewest_74 : decode cX9_fewest 74 = .ok (.iconst 1, 1) := by decide +kernel
theorem dX9_fewest_75 : decode cX9_fewest 75 = .ok (.istore 5, 2) := by decide +kernel
theorem dX9_fewest_77 : decode cX9_fewest 77 = .ok (.iload 5, 2) := by decide +kernel
theorem dX9_fewest_79 : decode cX9_fewest 79 = .ok (.iconst 2, 1) := by decide +kernel
theorem dX9_fewest_80 : decode cX9_fewest 80 = .ok (.if_icmp .gt 36, 3) := by decide +kernel
theorem dX9_fewest_83 : decode cX9_fewest 83 = .ok (.aload_n 0, 1) := by decide +kernel
theorem dX9_fewest_84 : decode cX9_fewest 84 = .ok (.iload_n 1, 1) := by decide +kernel
theorem dX9_fewest_85 : decode cX9_fewest 85 = .ok (.iload_n 2, 1) := by decide +kernel
theorem dX9_fewest_86 : decode cX9_fewest 86 = .ok (.iload 5, 2) := by decide +kernel
theorem dX9_fewest_88 : decode cX9_fewest 88 = .ok (.invokevirtual 185, 3) := by decide +kernel
theorem dX9_fewest_91 : decode cX9_fewest 91 = .ok (.istore 6, 2) := by decide +kernel
theorem dX9_fewest_93 : decode cX9_fewest 93 = .ok (.iload 6, 2) := by decide +kernel
theorem dX9_fewest_95 : decode cX9_fewest 95 = .ok (.ifCond .lt 15, 3) := by decide +kernel
theorem dX9_fewest_98 : decode cX9_fewest 98 = .ok (.iload_n 3, 1) := by decide +kernel
theorem dX9_fewest_99 : decode cX9_fewest 99 = .ok (.ifCond .ne 8, 3) := by decide +kernel
theorem dX9_fewest_102 : decode cX9_fewest 102 = .ok (.iload 5, 2) := by decide +kernel
theorem dX9_fewest_104 : decode cX9_fewest 104 = .ok (.goto 5, 3) := by decide +kernel
theorem dX9_fewest_107 : decode cX9_fewest 107 = .ok (.iload 6, 2) := by decide +kernel
theorem dX9_fewest_109 : decode cX9_fewest 109 = .ok (.ireturn, 1) := by decide +kernel
theorem dX9_fewest_110 : decode cX9_fewest 110 = .ok (.iinc 5 1, 3) := by decide +kernel
theorem dX9_fewest_113 : decode cX9_fewest 113 = .ok (.goto (-36), 3) := by decide +kernel
theorem dX9_fewest_116 : decode cX9_fewest 116 = .ok (.bipush (-9), 2) := by decide +kernel
theorem dX9_fewest_118 : decode cX9_fewest 118 = .ok (.ireturn, 1) := by decide +kernel
theorem dX9_who_0 : decode cX9_who 0 = .ok (.aload_n 0, 1) := by decide +kernel
theorem dX9_who_1 : decode cX9_who 1 = .ok (.iload_n 1, 1) := by decide +kernel
theorem dX9_who_2 : decode cX9_who 2 = .ok (.invokevirtual 48, 3) := by decide +kernel
theorem dX9_who_5 : decode cX9_who 5 = .ok (.ifCond .ne 9, 3) := by decide +kernel
theorem dX9_who_8 : decode cX9_who 8 = .ok (.aload_n 0, 1) := by decide +kernel
theorem dX9_who_9 : decode cX9_who 9 = .ok (.iconst (-1), 1) := by decide +kernel
theorem dX9_who_10 : decode cX9_who 10 = .ok (.invokevirtual 38, 3) := by decide +kernel
theorem dX9_who_13 : decode cX9_who 13 = .ok (.ireturn, 1) := by decide +kernel
theorem dX9_who_14 : decode cX9_who 14 = .ok (.iconst 0, 1) := by decide +kernel
theorem dX9_who_15 : decode cX9_who 15 = .ok (.istore_n 2, 1) := by decide +kernel
theorem dX9_who_16 : decode cX9_who 16 = .ok (.iconst 0, 1) := by decide +kernel
theorem dX9_who_17 : decode cX9_who 17 = .ok (.istore_n 3, 1) := by decide +kernel
theorem dX9_who_18 : decode cX9_who 18 = .ok (.iload_n 3, 1) := by decide +kernel
theorem dX9_who_19 : decode cX9_who 19 = .ok (.aload_n 0, 1) := by decide +kernel
theorem dX9_who_20 : decode cX9_who 20 = .ok (.getfield 9, 3) := by decide +kernel
theorem dX9_who_23 : decode cX9_who 23 = .ok (.iconst 0, 1) := by decide +kernel
theorem dX9_who_24 : decode cX9_who 24 = .ok (.iaload, 1) := by decide +kernel
theorem dX9_who_25 : decode cX9_who 25 = .ok (.if_icmp .ge 96, 3) := by decide +kernel
theorem dX9_who_28 : decode cX9_who 28 = .ok (.aload_n 0, 1) := by decide +kernel
theorem dX9_who_29 : decode cX9_who 29 = .ok (.getfield 9, 3) := by decide +kernel
theorem dX9_who_32 : decode cX9_who 32 = .ok (.iload_n 1, 1) := by decide +kernel
theorem dX9_who_33 : decode cX9_who 33 = .ok (.iconst 4, 1) := by decide +kernel
theorem dX9_who_34 : decode cX9_who 34 = .ok (.invokestatic 52, 3) := by decide +kernel
theorem dX9_who_37 : decode cX9_who 37 = .ok (.iaload, 1) := by decide +kernel
theorem dX9_who_38 : decode cX9_who 38 = .ok (.istore 4, 2) := by decide +kernel
theorem dX9_who_40 : decode cX9_who 40 = .ok (.iconst 1, 1) := by decide +kernel
theorem dX9_who_41 : decode cX9_who 41 = .ok (.istore 5, 2) := by decide +kernel
theorem dX9_who_43 : decode cX9_who 43 = .ok (.iconst 0, 1) := by decide +kernel
theorem dX9_who_44 : decode cX9_who 44 = .ok (.istore 6, 2) := by decide +kernel
theorem dX9_who_46 : decode cX9_who 46 = .ok (.iload 6, 2) := by decide +kernel
theorem dX9_who_48 : decode cX9_who 48 = .ok (.aload_n 0, 1) := by decide +kernel
theorem dX9_who_49 : decode cX9_who 49 = .ok (.getfield 189, 3) := by decide +kernel
theorem dX9_who_52 : decode cX9_who 52 = .ok (.if_icmp .ge 48, 3) := by decide +kernel
theorem dX9_who_55 : decode cX9_who 55 = .ok (.iload 5, 2) := by decide +kernel
theorem dX9_who_57 : decode cX9_who 57 = .ok (.iload 4, 2) := by decide +kernel
theorem dX9_who_59 : decode cX9_who 59 = .ok (.aload_n 0, 1) := by decide +kernel
theorem dX9_who_60 : decode cX9_who 60 = .ok (.getfield 28, 3) := by decide +kernel
theorem dX9_who_63 : decode cX9_who 63 = .ok (.iload 6, 2) := by decide +kernel
theorem dX9_who_65 : decode cX9_who 65 = .ok (.iaload, 1) := by decide +kernel
theorem dX9_who_66 : decode cX9_who 66 = .ok (.if_icmp .ne 7, 3) := by decide +kernel
theorem dX9_who_69 : decode cX9_who 69 = .ok (.iconst 1, 1) := by decide +kernel
theorem dX9_who_70 : decode cX9_who 70 = .ok (.goto 4, 3) := by decide +kernel
theorem dX9_who_73 : decode cX9_who 73 = .ok (.iconst 0, 1) := by decide +kernel
theorem dX9_who_74 : decode cX9_who 74 = .ok (.iand, 1) := by decide +kernel
theorem dX9_who_75 : decode cX9_who 75 = .ok (.istore 5, 2) := by decide +kernel
theorem dX9_who_77 : decode cX9_who 77 = .ok (.iload 4, 2) := by decide +kernel
theorem dX9_who_79 : decode cX9_who 79 = .ok (.aload_n 0, 1) := by decide +kernel
theorem dX9_who_80 : decode cX9_who 80 = .ok (.getfield 9, 3) := by decide +kernel
theorem dX9_who_83 : decode cX9_who 83 = .ok (.iload_n 3, 1) := by decide +kernel
theorem dX9_who_84 : decode cX9_who 84 = .ok (.iload_n 1, 1) := by decide +kernel
theorem dX9_who_85 : decode cX9_who 85 = .ok (.invokestatic 72, 3) := by decide +kernel
theorem dX9_who_88 : decode cX9_who 88 = .ok (.iadd, 1) := by decide +kernel
theorem dX9_who_89 : decode cX9_who 89 = .ok (.invokestatic 75, 3) := by decide +kernel
theorem dX9_who_92 : decode cX9_who 92 = .ok (.istore 4, 2) := by decide +kernel
theorem dX9_who_94 : decode cX9_who 94 = .ok (.iinc 6 1, 3) := by decide +kernel
theorem dX9_who_97 : decode cX9_who 97 = .ok (.goto (-51), 3) := by decide +kernel
theorem dX9_who_100 : decode cX9_who 100 = .ok (.iload_n 2, 1) := by decide +kernel
theorem dX9_who_101 : decode cX9_who 101 = .ok (.iload 5, 2) := by decide +kernel
theorem dX9_who_103 : decode cX9_who 103 = .ok (.ifCond .eq 9, 3) := by decide +kernel
theorem dX9_who_106 : decode cX9_who 106 = .ok (.iconst 1, 1) := by decide +kernel
theorem dX9_who_107 : decode cX9_who 107 = .ok (.iload_n 3, 1) := by decide +kernel
theorem dX9_who_108 : decode cX9_who 108 = .ok (.ishl, 1) := by decide +kernel
theorem dX9_who_109 : decode cX9_who 109 = .ok (.goto 4, 3) := by decide +kernel
theorem dX9_who_112 : decode cX9_who 112 = .ok (.iconst 0, 1) := by decide +kernel
theorem dX9_who_113 : decode cX9_who 113 = .ok (.ior, 1) := by decide +kernel
theorem dX9_who_114 : decode cX9_who 114 = .ok (.istore_n 2, 1) := by decide +kernel
theorem dX9_who_115 : decode cX9_who 115 = .ok (.iinc 3 1, 3) := by decide +kernel
theorem dX9_who_118 : decode cX9_who 118 = .ok (.goto (-100), 3) := by decide +kernel
theorem dX9_who_121 : decode cX9_who 121 = .ok (.iload_n 2, 1) := by decide +kernel
theorem dX9_who_122 : decode cX9_who 122 = .ok (.ireturn, 1) := by decide +kernel
theorem dX9_widow_0 : decode cX9_widow 0 = .ok (.aload_n 0, 1) := by decide +kernel
theorem dX9_widow_1 : decode cX9_widow 1 = .ok (.iload_n 1, 1) := by decide +kernel
theorem dX9_widow_2 : decode cX9_widow 2 = .ok (.iload_n 2, 1) := by decide +kernel
theorem dX9_widow_3 : decode cX9_widow 3 = .ok (.invokevirtual 115, 3) := by decide +kernel
theorem dX9_widow_6 : decode cX9_widow 6 = .ok (.ifCond .ne 9, 3) := by decide +kernel
theorem dX9_widow_9 : decode cX9_widow 9 = .ok (.aload_n 0, 1) := by decide +kernel
theorem dX9_widow_10 : decode cX9_widow 10 = .ok (.iconst (-1), 1) := by decide +kernel
theorem dX9_widow_11 : decode cX9_widow 11 = .ok (.invokevirtual 38, 3) := by decide +kernel
theorem dX9_widow_14 : decode cX9_widow 14 = .ok (.ireturn, 1) := by decide +kernel
theorem dX9_widow_15 : decode cX9_widow 15 = .ok (.aload_n 0, 1) := by decide +kernel
theorem dX9_widow_16 : decode cX9_widow 16 = .ok (.getfield 9, 3) := by decide +kernel
theorem dX9_widow_19 : decode cX9_widow 19 = .ok (.iload_n 2, 1) := by decide +kernel
theorem dX9_widow_20 : decode cX9_widow 20 = .ok (.invokestatic 68, 3) := by decide +kernel
theorem dX9_widow_23 : decode cX9_widow 23 = .ok (.istore_n 3, 1) := by decide +kernel
theorem dX9_widow_24 : decode cX9_widow 24 = .ok (.aload_n 0, 1) := by decide +kernel
theorem dX9_widow_25 : decode cX9_widow 25 = .ok (.getfield 9, 3) := by decide +kernel
theorem dX9_widow_28 : decode cX9_widow 28 = .ok (.iload_n 1, 1) := by decide +kernel
theorem dX9_widow_29 : decode cX9_widow 29 = .ok (.iconst 2, 1) := by decide +kernel
theorem dX9_widow_30 : decode cX9_widow 30 = .ok (.invokestatic 52, 3) := by decide +kernel
theorem dX9_widow_33 : decode cX9_widow 33 = .ok (.iaload, 1) := by decide +kernel
theorem dX9_widow_34 : decode cX9_widow 34 = .ok (.iload_n 2, 1) := by decide +kernel
theorem dX9_widow_35 : decode cX9_widow 35 = .ok (.invokestatic 56, 3) := by decide +kernel
theorem dX9_widow_38 : decode cX9_widow 38 = .ok (.ifCond .eq 21, 3) := by decide +kernel
theorem dX9_widow_41 : decode cX9_widow 41 = .ok (.iload_n 3, 1) := by decide +kernel
theorem dX9_widow_42 : decode cX9_widow 42 = .ok (.ifCond .lt 17, 3) := by decide +kernel
theorem dX9_widow_45 : decode cX9_widow 45 = .ok (.iload_n 3, 1) := by decide +kernel
theorem dX9_widow_46 : decode cX9_widow 46 = .ok (.iload_n 2, 1) := by decide +kernel
theorem dX9_widow_47 : decode cX9_widow 47 = .ok (.if_icmp .eq 12, 3) := by decide +kernel
theorem dX9_widow_50 : decode cX9_widow 50 = .ok (.iload_n 3, 1) := by decide +kernel
theorem dX9_widow_51 : decode cX9_widow 51 = .ok (.iload_n 1, 1) := by decide +kernel
theorem dX9_widow_52 : decode cX9_widow 52 = .ok (.if_icmp .eq 7, 3) := by decide +kernel
theorem dX9_widow_55 : decode cX9_widow 55 = .ok (.iload_n 3, 1) := by decide +kernel
theorem dX9_widow_56 : decode cX9_widow 56 = .ok (.goto 5, 3) := by decide +kernel
theorem dX9_widow_59 : decode cX9_widow 59 = .ok (.bipush (-9), 2) := by decide +kernel
theorem dX9_widow_61 : decode cX9_widow 61 = .ok (.ireturn, 1) := by decide +kernel
theorem dX9_twins_0 : decode cX9_twins 0 = .ok (.iload_n 1, 1) := by decide +kernel
theorem dX9_twins_1 : decode cX9_twins 1 = .ok (.iconst 0, 1) := by decide +kernel
theorem dX9_twins_2 : decode cX9_twins 2 = .ok (.iconst 1, 1) := by decide +kernel
theorem dX9_twins_3 : decode cX9_twins 3 = .ok (.invokestatic 44, 3) := by decide +kernel
theorem dX9_twins_6 : decode cX9_twins 6 = .ok (.ifCond .ne 10, 3) := by decide +kernel
theorem dX9_twins_9 : decode cX9_twins 9 = .ok (.aload_n 0, 1) := by decide +kernel
theorem dX9_twins_10 : decode cX9_twins 10 = .ok (.bipush (-2), 2) := by decide +kernel
theorem dX9_twins_12 : decode cX9_twins 12 = .ok (.invokevirtual 38, 3) := by decide +kernel
theorem dX9_twins_15 : decode cX9_twins 15 = .ok (.ireturn, 1) := by decide +kernel
theorem dX9_twins_16 : decode cX9_twins 16 = .ok (.iconst 0, 1) := by decide +kernel
theorem dX9_twins_17 : decode cX9_twins 17 = .ok (.istore_n 2, 1) := by decide +kernel
theorem dX9_twins_18 : decode cX9_twins 18 = .ok (.bipush (-9), 2) := by decide +kernel
theorem dX9_twins_20 : decode cX9_twins 20 = .ok (.istore_n 3, 1) := by decide +kernel
theorem dX9_twins_21 : decode cX9_twins 21 = .ok (.iconst 0, 1) := by decide +kernel
theorem dX9_twins_22 : decode cX9_twins 22 = .ok (.istore 4, 2) := by decide +kernel
theorem dX9_twins_24 : decode cX9_twins 24 = .ok (.iload 4, 2) := by decide +kernel
theorem dX9_twins_26 : decode cX9_twins 26 = .ok (.aload_n 0, 1) := by decide +kernel
theorem dX9_twins_27 : decode cX9_twins 27 = .ok (.getfield 9, 3) := by decide +kernel
theorem dX9_twins_30 : decode cX9_twins 30 = .ok (.iconst 0, 1) := by decide +kernel
theorem dX9_twins_31 : decode cX9_twins 31 = .ok (.iaload, 1) := by decide +kernel
theorem dX9_twins_32 : decode cX9_twins 32 = .ok (.if_icmp .ge 105, 3) := by decide +kernel
theorem dX9_twins_35 : decode cX9_twins 35 = .ok (.iload 4, 2) := by decide +kernel
theorem dX9_twins_37 : decode cX9_twins 37 = .ok (.iconst 1, 1) := by decide +kernel
theorem dX9_twins_38 : decode cX9_twins 38 = .ok (.iadd, 1) := by decide +kernel
theorem dX9_twins_39 : decode cX9_twins 39 = .ok (.istore 5, 2) := by decide +kernel
theorem dX9_twins_41 : decode cX9_twins 41 = .ok (.iload 5, 2) := by decide +kernel
theorem dX9_twins_43 : decode cX9_twins 43 = .ok (.aload_n 0, 1) := by decide +kernel
theorem dX9_twins_44 : decode cX9_twins 44 = .ok (.getfield 9, 3) := by decide +kernel
theorem dX9_twins_47 : decode cX9_twins 47 = .ok (.iconst 0, 1) := by decide +kernel
theorem dX9_twins_48 : decode cX9_twins 48 = .ok (.iaload, 1) := by decide +kernel
theorem dX9_twins_49 : decode cX9_twins 49 = .ok (.if_icmp .ge 82, 3) := by decide +kernel
theorem dX9_twins_52 : decode cX9_twins 52 = .ok (.aload_n 0, 1) := by decide +kernel
theorem dX9_twins_53 : decode cX9_twins 53 = .ok (.getfield 9, 3) := by decide +kernel
theorem dX9_twins_56 : decode cX9_twins 56 = .ok (.iload 4, 2) := by decide +kernel
theorem dX9_twins_58 : decode cX9_twins 58 = .ok (.iconst 4, 1) := by decide +kernel
theorem dX9_twins_59 : decode cX9_twins 59 = .ok (.invokestatic 52, 3) := by decide +kernel
theorem dX9_twins_62 : decode cX9_twins 62 = .ok (.iaload, 1) := by decide +kernel
theorem dX9_twins_63 : decode cX9_twins 63 = .ok (.aload_n 0, 1) := by decide +kernel
theorem dX9_twins_64 : decode cX9_twins 64 = .ok (.getfield 9, 3) := by decide +kernel
theorem dX9_twins_67 : decode cX9_twins 67 = .ok (.iload 5, 2) := by decide +kernel
theorem dX9_twins_69 : decode cX9_twins 69 = .ok (.iconst 4, 1) := by decide +kernel
theorem dX9_twins_70 : decode cX9_twins 70 = .ok (.invokestatic 52, 3) := by decide +kernel
theorem dX9_twins_73 : decode cX9_twins 73 = .ok (.iaload, 1) := by decide +kernel
theorem dX9_twins_74 : decode cX9_twins 74 = .ok (.if_icmp .ne 51, 3) := by decide +kernel
theorem dX9_twins_77 : decode cX9_twins 77 = .ok (.aload_n 0, 1) := by decide +kernel
theorem dX9_twins_78 : decode cX9_twins 78 = .ok (.getfield 9, 3) := by decide +kernel
theorem dX9_twins_81 : decode cX9_twins 81 = .ok (.iload 4, 2) := by decide +kernel
theorem dX9_twins_83 : decode cX9_twins 83 = .ok (.iconst 5, 1) := by decide +kernel
theorem dX9_twins_84 : decode cX9_twins 84 = .ok (.invokestatic 52, 3) := by decide +kernel
theorem dX9_twins_87 : decode cX9_twins 87 = .ok (.iaload, 1) := by decide +kernel
theorem dX9_twins_88 : decode cX9_twins 88 = .ok (.aload_n 0, 1) := by decide +kernel
theorem dX9_twins_89 : decode cX9_twins 89 = .ok (.getfield 9, 3) := by decide +kernel
theorem dX9_twins_92 : decode cX9_twins 92 = .ok (.iload 5, 2) := by decide +kernel
theorem dX9_twins_94 : decode cX9_twins 94 = .ok (.iconst 5, 1) := by decide +kernel
theorem dX9_twins_95 : decode cX9_twins 95 = .ok (.invokestatic 52, 3) := by decide +kernel
theorem dX9_twins_98 : decode cX9_twins 98 = .ok (.iaload, 1) := by decide +kernel
theorem dX9_twins_99 : decode cX9_twins 99 = .ok (.if_icmp .eq 6, 3) := by decide +kernel
theorem dX9_twins_102 : decode cX9_twins 102 = .ok (.goto 23, 3) := by decide +kernel
theorem dX9_twins_105 : decode cX9_twins 105 = .ok (.iload_n 2, 1) := by decide +kernel
theorem dX9_twins_106 : decode cX9_twins 106 = .ok (.ifCond .ne 14, 3) := by decide +kernel
theorem dX9_twins_109 : decode cX9_twins 109 = .ok (.bipush 10, 2) := by decide +kernel
theorem dX9_twins_111 : decode cX9_twins 111 = .ok (.iload 4, 2) := by decide +kernel
theorem dX9_twins_113 : decode cX9_twins 113 = .ok (.imul, 1) := by decide +kernel
theorem dX9_twins_114 : decode cX9_twins 114 = .ok (.iload 5, 2) := by decide +kernel
theorem dX9_twins_116 : decode cX9_twins 116 = .ok (.iadd, 1) := by decide +kernel
theorem dX9_twins_117 : decode cX9_twins 117 = .ok (.goto 4, 3) := by decide +kernel
theorem dX9_twins_120 : decode cX9_twins 120 = .ok (.iload_n 3, 1) := by decide +kernel
theorem dX9_twins_121 : decode cX9_twins 121 = .ok (.istore_n 3, 1) := by decide +kernel
theorem dX9_twins_122 : decode cX9_twins 122 = .ok (.iinc 2 1, 3) := by decide +kernel
theorem dX9_twins_125 : decode cX9_twins 125 = .ok (.iinc 5 1, 3) := by decide +kernel
theorem dX9_twins_128 : decode cX9_twins 128 = .ok (.goto (-87), 3) := by decide +kernel
theorem dX9_twins_131 : decode cX9_twins 131 = .ok (.iinc 4 1, 3) := by decide +kernel
theorem dX9_twins_134 : decode cX9_twins 134 = .ok (.goto (-110), 3) := by decide +kernel
theorem dX9_twins_137 : decode cX9_twins 137 = .ok (.iload_n 1, 1) := by decide +kernel
theorem dX9_twins_138 : decode cX9_twins 138 = .ok (.ifCond .ne 7, 3) := by decide +kernel
theorem dX9_twins_141 : decode cX9_twins 141 = .ok (.iload_n 2, 1) := by decide +kernel
theorem dX9_twins_142 : decode cX9_twins 142 = .ok (.goto 4, 3) := by decide +kernel
theorem dX9_twins_145 : decode cX9_twins 145 = .ok (.iload_n 3, 1) := by decide +kernel
theorem dX9_twins_146 : decode cX9_twins 146 = .ok (.ireturn, 1) := by decide +kernel
theorem dX9_worthBoth_0 : decode cX9_worthBoth 0 = .ok (.aload_n 0, 1) := by decide +kernel
theorem dX9_worthBoth_1 : decode cX9_worthBoth 1 = .ok (.getfield 9, 3) := by decide +kernel
theorem dX9_worthBoth_4 : decode cX9_worthBoth 4 = .ok (.aload_n 0, 1) := by decide +kernel
theorem dX9_worthBoth_5 : decode cX9_worthBoth 5 = .ok (.getfield 13, 3) := by decide +kernel
theorem dX9_worthBoth_8 : decode cX9_worthBoth 8 = .ok (.invokestatic 133, 3) := by decide +kernel
theorem dX9_worthBoth_11 : decode cX9_worthBoth 11 = .ok (.iload_n 3, 1) := by decide +kernel
theorem dX9_worthBoth_12 : decode cX9_worthBoth 12 = .ok (.iconst 1, 1) := by decide +kernel
theorem dX9_worthBoth_13 : decode cX9_worthBoth 13 = .ok (.if_icmp .ne 26, 3) := by decide +kernel
theorem dX9_worthBoth_16 : decode cX9_worthBoth 16 = .ok (.aload_n 0, 1) := by decide +kernel
theorem dX9_worthBoth_17 : decode cX9_worthBoth 17 = .ok (.getfield 13, 3) := by decide +kernel
theorem dX9_worthBoth_20 : decode cX9_worthBoth 20 = .ok (.iload 4, 2) := by decide +kernel
theorem dX9_worthBoth_22 : decode cX9_worthBoth 22 = .ok (.iload_n 2, 1) := by decide +kernel
theorem dX9_worthBoth_23 : decode cX9_worthBoth 23 = .ok (.invokestatic 118, 3) := by decide +kernel
theorem dX9_worthBoth_26 : decode cX9_worthBoth 26 = .ok (.ifCond .eq 13, 3) := by decide +kernel
theorem dX9_worthBoth_29 : decode cX9_worthBoth 29 = .ok (.aload_n 0, 1) := by decide +kernel
theorem dX9_worthBoth_30 : decode cX9_worthBoth 30 = .ok (.getfield 13, 3) := by decide +kernel
theorem dX9_worthBoth_33 : decode cX9_worthBoth 33 = .ok (.iload 4, 2) := by decide +kernel
theorem dX9_worthBoth_35 : decode cX9_worthBoth 35 = .ok (.iload_n 2, 1) := by decide +kernel
theorem dX9_worthBoth_36 : decode cX9_worthBoth 36 = .ok (.invokestatic 122, 3) := by decide +kernel
theorem dX9_worthBoth_39 : decode cX9_worthBoth 39 = .ok (.iload 5, 2) := by decide +kernel
theorem dX9_worthBoth_41 : decode cX9_worthBoth 41 = .ok (.iconst 1, 1) := by decide +kernel
theorem dX9_worthBoth_42 : decode cX9_worthBoth 42 = .ok (.if_icmp .ne 26, 3) := by decide +kernel
theorem dX9_worthBoth_45 : decode cX9_worthBoth 45 = .ok (.aload_n 0, 1) := by decide +kernel
theorem dX9_worthBoth_46 : decode cX9_worthBoth 46 = .ok (.getfield 13, 3) := by decide +kernel
theorem dX9_worthBoth_49 : decode cX9_worthBoth 49 = .ok (.iload_n 2, 1) := by decide +kernel
theorem dX9_worthBoth_50 : decode cX9_worthBoth 50 = .ok (.iload 4, 2) := by decide +kernel
theorem dX9_worthBoth_52 : decode cX9_worthBoth 52 = .ok (.invokestatic 118, 3) := by decide +kernel
theorem dX9_worthBoth_55 : decode cX9_worthBoth 55 = .ok (.ifCond .eq 13, 3) := by decide +kernel
theorem dX9_worthBoth_58 : decode cX9_worthBoth 58 = .ok (.aload_n 0, 1) := by decide +kernel
theorem dX9_worthBoth_59 : decode cX9_worthBoth 59 = .ok (.getfield 13, 3) := by decide +kernel
theorem dX9_worthBoth_62 : decode cX9_worthBoth 62 = .ok (.iload_n 2, 1) := by decide +kernel
theorem dX9_worthBoth_63 : decode cX9_worthBoth 63 = .ok (.iload 4, 2) := by decide +kernel
theorem dX9_worthBoth_65 : decode cX9_worthBoth 65 = .ok (.invokestatic 122, 3) := by decide +kernel
theorem dX9_worthBoth_68 : decode cX9_worthBoth 68 = .ok (.aload_n 0, 1) := by decide +kernel
theorem dX9_worthBoth_69 : decode cX9_worthBoth 69 = .ok (.iload_n 1, 1) := by decide +kernel
theorem dX9_worthBoth_70 : decode cX9_worthBoth 70 = .ok (.iload 6, 2) := by decide +kernel
theorem dX9_worthBoth_72 : decode cX9_worthBoth 72 = .ok (.invokevirtual 163, 3) := by decide +kernel
theorem dX9_worthBoth_75 : decode cX9_worthBoth 75 = .ok (.ireturn, 1) := by decide +kernel
theorem dX9_two_0 : decode cX9_two 0 = .ok (.aload_n 0, 1) := by decide +kernel
theorem dX9_two_1 : decode cX9_two 1 = .ok (.iload_n 1, 1) := by decide +kernel
theorem dX9_two_2 : decode cX9_two 2 = .ok (.iload_n 2, 1) := by decide +kernel
theorem dX9_two_3 : decode cX9_two 3 = .ok (.invokevirtual 115, 3) := by decide +kernel
theorem dX9_two_6 : decode cX9_two 6 = .ok (.ifCond .eq 12, 3) := by decide +kernel
theorem dX9_two_9 : decode cX9_two 9 = .ok (.iload_n 3, 1) := by decide +kernel
theorem dX9_two_10 : decode cX9_two 10 = .ok (.bipush 24, 2) := by decide +kernel
theorem dX9_two_12 : decode cX9_two 12 = .ok (.invokestatic 150, 3) := by decide +kernel
theorem dX9_two_15 : decode cX9_two 15 = .ok (.goto 4, 3) := by decide +kernel
theorem dX9_two_18 : decode cX9_two 18 = .ok (.iconst (-1), 1) := by decide +kernel
theorem dX9_two_19 : decode cX9_two 19 = .ok (.istore 4, 2) := by decide +kernel
theorem dX9_two_21 : decode cX9_two 21 = .ok (.iload 4, 2) := by decide +kernel
theorem dX9_two_23 : decode cX9_two 23 = .ok (.ifCond .eq 10, 3) := by decide +kernel
theorem dX9_two_26 : decode cX9_two 26 = .ok (.aload_n 0, 1) := by decide +kernel
theorem dX9_two_27 : decode cX9_two 27 = .ok (.iload 4, 2) := by decide +kernel
theorem dX9_two_29 : decode cX9_two 29 = .ok (.invokevirtual 38, 3) := by decide +kernel
theorem dX9_two_32 : decode cX9_two 32 = .ok (.ireturn, 1) := by decide +kernel
theorem dX9_two_33 : decode cX9_two 33 = .ok (.iconst 0, 1) := by decide +kernel
theorem dX9_two_34 : decode cX9_two 34 = .ok (.istore 5, 2) := by decide +kernel
theorem dX9_two_36 : decode cX9_two 36 = .ok (.iload 5, 2) := by decide +kernel
theorem dX9_two_38 : decode cX9_two 38 = .ok (.iconst 4, 1) := by decide +kernel
theorem dX9_two_39 : decode cX9_two 39 = .ok (.if_icmp .ge 88, 3) := by decide +kernel
theorem dX9_two_42 : decode cX9_two 42 = .ok (.iload 5, 2) := by decide +kernel
theorem dX9_two_44 : decode cX9_two 44 = .ok (.iconst 2, 1) := by decide +kernel
theorem dX9_two_45 : decode cX9_two 45 = .ok (.idiv, 1) := by decide +kernel
theorem dX9_two_46 : decode cX9_two 46 = .ok (.istore 6, 2) := by decide +kernel
theorem dX9_two_48 : decode cX9_two 48 = .ok (.iload 5, 2) := by decide +kernel
theorem dX9_two_50 : decode cX9_two 50 = .ok (.iconst 2, 1) := by decide +kernel
theorem dX9_two_51 : decode cX9_two 51 = .ok (.irem, 1) := by decide +kernel
theorem dX9_two_52 : decode cX9_two 52 = .ok (.istore 7, 2) := by decide +kernel
theorem dX9_two_54 : decode cX9_two 54 = .ok (.aload_n 0, 1) := by decide +kernel
theorem dX9_two_55 : decode cX9_two 55 = .ok (.iload_n 1, 1) := by decide +kernel
theorem dX9_two_56 : decode cX9_two 56 = .ok (.iload_n 1, 1) := by decide +kernel
theorem dX9_two_57 : decode cX9_two 57 = .ok (.iconst 1, 1) := by decide +kernel
theorem dX9_two_58 : decode cX9_two 58 = .ok (.iload 6, 2) := by decide +kernel
theorem dX9_two_60 : decode cX9_two 60 = .ok (.isub, 1) := by decide +kernel
theorem dX9_two_61 : decode cX9_two 61 = .ok (.iload_n 2, 1) := by decide +kernel
theorem dX9_two_62 : decode cX9_two 62 = .ok (.iload 7, 2) := by decide +kernel
theorem dX9_two_64 : decode cX9_two 64 = .ok (.iload_n 3, 1) := by decide +kernel
theorem dX9_two_65 : decode cX9_two 65 = .ok (.invokevirtual 192, 3) := by decide +kernel
theorem dX9_two_68 : decode cX9_two 68 = .ok (.aload_n 0, 1) := by decide +kernel
theorem dX9_two_69 : decode cX9_two 69 = .ok (.iload_n 1, 1) := by decide +kernel
theorem dX9_two_70 : decode cX9_two 70 = .ok (.iload_n 1, 1) := by decide +kernel
theorem dX9_two_71 : decode cX9_two 71 = .ok (.iload 6, 2) := by decide +kernel
theorem dX9_two_73 : decode cX9_two 73 = .ok (.iload_n 2, 1) := by decide +kernel
theorem dX9_two_74 : decode cX9_two 74 = .ok (.iload 7, 2) := by decide +kernel
theorem dX9_two_76 : decode cX9_two 76 = .ok (.iload_n 3, 1) := by decide +kernel
theorem dX9_two_77 : decode cX9_two 77 = .ok (.invokevirtual 192, 3) := by decide +kernel
theorem dX9_two_80 : decode cX9_two 80 = .ok (.if_icmp .gt 41, 3) := by decide +kernel
theorem dX9_two_83 : decode cX9_two 83 = .ok (.aload_n 0, 1) := by decide +kernel
theorem dX9_two_84 : decode cX9_two 84 = .ok (.iload_n 2, 1) := by decide +kernel
theorem dX9_two_85 : decode cX9_two 85 = .ok (.iload_n 1, 1) := by decide +kernel
theorem dX9_two_86 : decode cX9_two 86 = .ok (.iload 6, 2) := by decide +kernel
theorem dX9_two_88 : decode cX9_two 88 = .ok (.iload_n 2, 1) := by decide +kernel
theorem dX9_two_89 : decode cX9_two 89 = .ok (.iconst 1, 1) := by decide +kernel
theorem dX9_two_90 : decode cX9_two 90 = .ok (.iload 7, 2) := by decide +kernel
theorem dX9_two_92 : decode cX9_two 92 = .ok (.isub, 1) := by decide +kernel
theorem dX9_two_93 : decode cX9_two 93 = .ok (.iload_n 3, 1) := by decide +kernel
theorem dX9_two_94 : decode cX9_two 94 = .ok (.invokevirtual 192, 3) := by decide +kernel
theorem dX9_two_97 : decode cX9_two 97 = .ok (.aload_n 0, 1) := by decide +kernel
theorem dX9_two_98 : decode cX9_two 98 = .ok (.iload_n 2, 1) := by decide +kernel
theorem dX9_two_99 : decode cX9_two 99 = .ok (.iload_n 1, 1) := by decide +kernel
theorem dX9_two_100 : decode cX9_two 100 = .ok (.iload 6, 2) := by decide +kernel
theorem dX9_two_102 : decode cX9_two 102 = .ok (.iload_n 2, 1) := by decide +kernel
theorem dX9_two_103 : decode cX9_two 103 = .ok (.iload 7, 2) := by decide +kernel
theorem dX9_two_105 : decode cX9_two 105 = .ok (.iload_n 3, 1) := by decide +kernel
theorem dX9_two_106 : decode cX9_two 106 = .ok (.invokevirtual 192, 3) := by decide +kernel
theorem dX9_two_109 : decode cX9_two 109 = .ok (.if_icmp .gt 12, 3) := by decide +kernel
theorem dX9_two_112 : decode cX9_two 112 = .ok (.bipush 10, 2) := by decide +kernel
theorem dX9_two_114 : decode cX9_two 114 = .ok (.iload 6, 2) := by decide +kernel
theorem dX9_two_116 : decode cX9_two 116 = .ok (.imul, 1) := by decide +kernel
theorem dX9_two_117 : decode cX9_two 117 = .ok (.iload 7, 2) := by decide +kernel
theorem dX9_two_119 : decode cX9_two 119 = .ok (.iadd, 1) := by decide +kernel
theorem dX9_two_120 : decode cX9_two 120 = .ok (.ireturn, 1) := by decide +kernel
theorem dX9_two_121 : decode cX9_two 121 = .ok (.iinc 5 1, 3) := by decide +kernel
theorem dX9_two_124 : decode cX9_two 124 = .ok (.goto (-88), 3) := by decide +kernel
theorem dX9_two_127 : decode cX9_two 127 = .ok (.bipush (-9), 2) := by decide +kernel
theorem dX9_two_129 : decode cX9_two 129 = .ok (.ireturn, 1) := by decide +kernel
theorem dX9_gcd_0 : decode cX9_gcd 0 = .ok (.lload_n 0, 1) := by decide +kernel
theorem dX9_gcd_1 : decode cX9_gcd 1 = .ok (.lstore 4, 2) := by decide +kernel
theorem dX9_gcd_3 : decode cX9_gcd 3 = .ok (.lload_n 2, 1) := by decide +kernel
theorem dX9_gcd_4 : decode cX9_gcd 4 = .ok (.lstore 6, 2) := by decide +kernel
theorem dX9_gcd_6 : decode cX9_gcd 6 = .ok (.lload 6, 2) := by decide +kernel
theorem dX9_gcd_8 : decode cX9_gcd 8 = .ok (.lconst 0, 1) := by decide +kernel
theorem dX9_gcd_9 : decode cX9_gcd 9 = .ok (.lcmp, 1) := by decide +kernel
theorem dX9_gcd_10 : decode cX9_gcd 10 = .ok (.ifCond .eq 21, 3) := by decide +kernel
theorem dX9_gcd_13 : decode cX9_gcd 13 = .ok (.lload 4, 2) := by decide +kernel
theorem dX9_gcd_15 : decode cX9_gcd 15 = .ok (.lload 6, 2) := by decide +kernel
theorem dX9_gcd_17 : decode cX9_gcd 17 = .ok (.lrem, 1) := by decide +kernel
theorem dX9_gcd_18 : decode cX9_gcd 18 = .ok (.lstore 8, 2) := by decide +kernel
theorem dX9_gcd_20 : decode cX9_gcd 20 = .ok (.lload 6, 2) := by decide +kernel
theorem dX9_gcd_22 : decode cX9_gcd 22 = .ok (.lstore 4, 2) := by decide +kernel
theorem dX9_gcd_24 : decode cX9_gcd 24 = .ok (.lload 8, 2) := by decide +kernel
theorem dX9_gcd_26 : decode cX9_gcd 26 = .ok (.lstore 6, 2) := by decide +kernel
theorem dX9_gcd_28 : decode cX9_gcd 28 = .ok (.goto (-22), 3) := by decide +kernel
theorem dX9_gcd_31 : decode cX9_gcd 31 = .ok (.lload 4, 2) := by decide +kernel
theorem dX9_gcd_33 : decode cX9_gcd 33 = .ok (.lreturn, 1) := by decide +kernel
theorem dX9_partOf_0 : decode cX9_partOf 0 = .ok (.lload_n 0, 1) := by decide +kernel
theorem dX9_partOf_1 : decode cX9_partOf 1 = .ok (.lconst 0, 1) := by decide +kernel
theorem dX9_partOf_2 : decode cX9_partOf 2 = .ok (.lcmp, 1) := by decide +kernel
theorem dX9_partOf_3 : decode cX9_partOf 3 = .ok (.ifCond .ne 7, 3) := by decide +kernel
theorem dX9_partOf_6 : decode cX9_partOf 6 = .ok (.iload 4, 2) := by decide +kernel
theorem dX9_partOf_8 : decode cX9_partOf 8 = .ok (.i2l, 1) := by decide +kernel
theorem dX9_partOf_9 : decode cX9_partOf 9 = .ok (.lreturn, 1) := by decide +kernel
theorem dX9_partOf_10 : decode cX9_partOf 10 = .ok (.iload 4, 2) := by decide +kernel
theorem dX9_partOf_12 : decode cX9_partOf 12 = .ok (.ifCond .ne 7, 3) := by decide +kernel
theorem dX9_partOf_15 : decode cX9_partOf 15 = .ok (.lload_n 0, 1) := by decide +kernel
theorem dX9_partOf_16 : decode cX9_partOf 16 = .ok (.goto 4, 3) := by decide +kernel
theorem dX9_partOf_19 : decode cX9_partOf 19 = .ok (.lload_n 2, 1) := by decide +kernel
theorem dX9_partOf_20 : decode cX9_partOf 20 = .ok (.lload_n 0, 1) := by decide +kernel
theorem dX9_partOf_21 : decode cX9_partOf 21 = .ok (.lload_n 2, 1) := by decide +kernel
theorem dX9_partOf_22 : decode cX9_partOf 22 = .ok (.invokestatic 196, 3) := by decide +kernel
theorem dX9_partOf_25 : decode cX9_partOf 25 = .ok (.ldiv, 1) := by decide +kernel
theorem dX9_partOf_26 : decode cX9_partOf 26 = .ok (.lreturn, 1) := by decide +kernel
theorem dX9_quarrel_0 : decode cX9_quarrel 0 = .ok (.aload_n 0, 1) := by decide +kernel
theorem dX9_quarrel_1 : decode cX9_quarrel 1 = .ok (.iload_n 1, 1) := by decide +kernel
theorem dX9_quarrel_2 : decode cX9_quarrel 2 = .ok (.invokevirtual 48, 3) := by decide +kernel
theorem dX9_quarrel_5 : decode cX9_quarrel 5 = .ok (.ifCond .ne 9, 3) := by decide +kernel
theorem dX9_quarrel_8 : decode cX9_quarrel 8 = .ok (.aload_n 0, 1) := by decide +kernel
theorem dX9_quarrel_9 : decode cX9_quarrel 9 = .ok (.iconst (-1), 1) := by decide +kernel
theorem dX9_quarrel_10 : decode cX9_quarrel 10 = .ok (.invokevirtual 200, 3) := by decide +kernel
theorem dX9_quarrel_13 : decode cX9_quarrel 13 = .ok (.lreturn, 1) := by decide +kernel
theorem dX9_quarrel_14 : decode cX9_quarrel 14 = .ok (.iload_n 2, 1) := by decide +kernel
theorem dX9_quarrel_15 : decode cX9_quarrel 15 = .ok (.ifCond .lt 13, 3) := by decide +kernel
theorem dX9_quarrel_18 : decode cX9_quarrel 18 = .ok (.iload 4, 2) := by decide +kernel
theorem dX9_quarrel_20 : decode cX9_quarrel 20 = .ok (.ifCond .lt 8, 3) := by decide +kernel
theorem dX9_quarrel_23 : decode cX9_quarrel 23 = .ok (.iload_n 3, 1) := by decide +kernel
theorem dX9_quarrel_24 : decode cX9_quarrel 24 = .ok (.iconst 2, 1) := by decide +kernel
theorem dX9_quarrel_25 : decode cX9_quarrel 25 = .ok (.if_icmp .ge 10, 3) := by decide +kernel
theorem dX9_quarrel_28 : decode cX9_quarrel 28 = .ok (.aload_n 0, 1) := by decide +kernel
theorem dX9_quarrel_29 : decode cX9_quarrel 29 = .ok (.bipush (-4), 2) := by decide +kernel
theorem dX9_quarrel_31 : decode cX9_quarrel 31 = .ok (.invokevirtual 200, 3) := by decide +kernel
theorem dX9_quarrel_34 : decode cX9_quarrel 34 = .ok (.lreturn, 1) := by decide +kernel
theorem dX9_quarrel_35 : decode cX9_quarrel 35 = .ok (.iload_n 2, 1) := by decide +kernel
theorem dX9_quarrel_36 : decode cX9_quarrel 36 = .ok (.bipush 7, 2) := by decide +kernel
theorem dX9_quarrel_38 : decode cX9_quarrel 38 = .ok (.if_icmp .gt 16, 3) := by decide +kernel
theorem dX9_quarrel_41 : decode cX9_quarrel 41 = .ok (.iload_n 3, 1) := by decide +kernel
theorem dX9_quarrel_42 : decode cX9_quarrel 42 = .ok (.bipush 20, 2) := by decide +kernel
theorem dX9_quarrel_44 : decode cX9_quarrel 44 = .ok (.if_icmp .gt 10, 3) := by decide +kernel
theorem dX9_quarrel_47 : decode cX9_quarrel 47 = .ok (.iload 4, 2) := by decide +kernel
theorem dX9_quarrel_49 : decode cX9_quarrel 49 = .ok (.bipush 99, 2) := by decide +kernel
theorem dX9_quarrel_51 : decode cX9_quarrel 51 = .ok (.if_icmp .le 10, 3) := by decide +kernel
theorem dX9_quarrel_54 : decode cX9_quarrel 54 = .ok (.aload_n 0, 1) := by decide +kernel
theorem dX9_quarrel_55 : decode cX9_quarrel 55 = .ok (.bipush (-6), 2) := by decide +kernel
theorem dX9_quarrel_57 : decode cX9_quarrel 57 = .ok (.invokevirtual 200, 3) := by decide +kernel
theorem dX9_quarrel_60 : decode cX9_quarrel 60 = .ok (.lreturn, 1) := by decide +kernel
theorem dX9_quarrel_61 : decode cX9_quarrel 61 = .ok (.iload 5, 2) := by decide +kernel
theorem dX9_quarrel_63 : decode cX9_quarrel 63 = .ok (.iconst 0, 1) := by decide +kernel
theorem dX9_quarrel_64 : decode cX9_quarrel 64 = .ok (.iconst 1, 1) := by decide +kernel
theorem dX9_quarrel_65 : decode cX9_quarrel 65 = .ok (.invokestatic 44, 3) := by decide +kernel
theorem dX9_quarrel_68 : decode cX9_quarrel 68 = .ok (.ifCond .ne 10, 3) := by decide +kernel
theorem dX9_quarrel_71 : decode cX9_quarrel 71 = .ok (.aload_n 0, 1) := by decide +kernel
theorem dX9_quarrel_72 : decode cX9_quarrel 72 = .ok (.bipush (-2), 2) := by decide +kernel
theorem dX9_quarrel_74 : decode cX9_quarrel 74 = .ok (.invokevirtual 200, 3) := by decide +kernel
theorem dX9_quarrel_77 : decode cX9_quarrel 77 = .ok (.lreturn, 1) := by decide +kernel
theorem dX9_quarrel_78 : decode cX9_quarrel 78 = .ok (.lconst 0, 1) := by decide +kernel
theorem dX9_quarrel_79 : decode cX9_quarrel 79 = .ok (.lstore 6, 2) := by decide +kernel
theorem dX9_quarrel_81 : decode cX9_quarrel 81 = .ok (.lconst 1, 1) := by decide +kernel
theorem dX9_quarrel_82 : decode cX9_quarrel 82 = .ok (.lstore 8, 2) := by decide +kernel
theorem dX9_quarrel_84 : decode cX9_quarrel 84 = .ok (.iconst 0, 1) := by decide +kernel
theorem dX9_quarrel_85 : decode cX9_quarrel 85 = .ok (.istore 10, 2) := by decide +kernel
theorem dX9_quarrel_87 : decode cX9_quarrel 87 = .ok (.iload 10, 2) := by decide +kernel
theorem dX9_quarrel_89 : decode cX9_quarrel 89 = .ok (.iload_n 2, 1) := by decide +kernel
theorem dX9_quarrel_90 : decode cX9_quarrel 90 = .ok (.if_icmp .ge 16, 3) := by decide +kernel
theorem dX9_quarrel_93 : decode cX9_quarrel 93 = .ok (.lload 8, 2) := by decide +kernel
theorem dX9_quarrel_95 : decode cX9_quarrel 95 = .ok (.iload_n 3, 1) := by decide +kernel
theorem dX9_quarrel_96 : decode cX9_quarrel 96 = .ok (.i2l, 1) := by decide +kernel
theorem dX9_quarrel_97 : decode cX9_quarrel 97 = .ok (.lmul, 1) := by decide +kernel
theorem dX9_quarrel_98 : decode cX9_quarrel 98 = .ok (.lstore 8, 2) := by decide +kernel
theorem dX9_quarrel_100 : decode cX9_quarrel 100 = .ok (.iinc 10 1, 3) := by decide +kernel
theorem dX9_quarrel_103 : decode cX9_quarrel 103 = .ok (.goto (-16), 3) := by decide +kernel
theorem dX9_quarrel_106 : decode cX9_quarrel 106 = .ok (.iconst 0, 1) := by decide +kernel
theorem dX9_quarrel_107 : decode cX9_quarrel 107 = .ok (.istore 10, 2) := by decide +kernel
theorem dX9_quarrel_109 : decode cX9_quarrel 109 = .ok (.iload 10, 2) := by decide +kernel
theorem dX9_quarrel_111 : decode cX9_quarrel 111 = .ok (.iconst 1, 1) := by decide +kernel
theorem dX9_quarrel_112 : decode cX9_quarrel 112 = .ok (.iload_n 2, 1) := by decide +kernel
theorem dX9_quarrel_113 : decode cX9_quarrel 113 = .ok (.ishl, 1) := by decide +kernel
theorem dX9_quarrel_114 : decode cX9_quarrel 114 = .ok (.if_icmp .ge 133, 3) := by decide +kernel
theorem dX9_quarrel_117 : decode cX9_quarrel 117 = .ok (.lconst 1, 1) := by decide +kernel
theorem dX9_quarrel_118 : decode cX9_quarrel 118 = .ok (.lstore 11, 2) := by decide +kernel
theorem dX9_quarrel_120 : decode cX9_quarrel 120 = .ok (.aload_n 0, 1) := by decide +kernel
theorem dX9_quarrel_121 : decode cX9_quarrel 121 = .ok (.getfield 9, 3) := by decide +kernel
theorem dX9_quarrel_124 : decode cX9_quarrel 124 = .ok (.aload_n 0, 1) := by decide +kernel
theorem dX9_quarrel_125 : decode cX9_quarrel 125 = .ok (.getfield 13, 3) := by decide +kernel
theorem dX9_quarrel_128 : decode cX9_quarrel 128 = .ok (.invokestatic 133, 3) := by decide +kernel
theorem dX9_quarrel_131 : decode cX9_quarrel 131 = .ok (.iconst 0, 1) := by decide +kernel
theorem dX9_quarrel_132 : decode cX9_quarrel 132 = .ok (.istore 13, 2) := by decide +kernel
theorem dX9_quarrel_134 : decode cX9_quarrel 134 = .ok (.iload 13, 2) := by decide +kernel
theorem dX9_quarrel_136 : decode cX9_quarrel 136 = .ok (.iload_n 2, 1) := by decide +kernel
theorem dX9_quarrel_137 : decode cX9_quarrel 137 = .ok (.if_icmp .ge 78, 3) := by decide +kernel
theorem dX9_quarrel_140 : decode cX9_quarrel 140 = .ok (.lload 11, 2) := by decide +kernel
theorem dX9_quarrel_142 : decode cX9_quarrel 142 = .ok (.iload 10, 2) := by decide +kernel
theorem dX9_quarrel_144 : decode cX9_quarrel 144 = .ok (.iload 13, 2) := by decide +kernel
theorem dX9_quarrel_146 : decode cX9_quarrel 146 = .ok (.invokestatic 56, 3) := by decide +kernel
theorem dX9_quarrel_149 : decode cX9_quarrel 149 = .ok (.ifCond .eq 7, 3) := by decide +kernel
theorem dX9_quarrel_152 : decode cX9_quarrel 152 = .ok (.lconst 1, 1) := by decide +kernel
theorem dX9_quarrel_153 : decode cX9_quarrel 153 = .ok (.goto 7, 3) := by decide +kernel
theorem dX9_quarrel_156 : decode cX9_quarrel 156 = .ok (.iload_n 3, 1) := by decide +kernel
theorem dX9_quarrel_157 : decode cX9_quarrel 157 = .ok (.iconst 1, 1) := by decide +kernel
theorem dX9_quarrel_158 : decode cX9_quarrel 158 = .ok (.isub, 1) := by decide +kernel
theorem dX9_quarrel_159 : decode cX9_quarrel 159 = .ok (.i2l, 1) := by decide +kernel
theorem dX9_quarrel_160 : decode cX9_quarrel 160 = .ok (.lmul, 1) := by decide +kernel
theorem dX9_quarrel_161 : decode cX9_quarrel 161 = .ok (.lstore 11, 2) := by decide +kernel
theorem dX9_quarrel_163 : decode cX9_quarrel 163 = .ok (.aload_n 0, 1) := by decide +kernel
theorem dX9_quarrel_164 : decode cX9_quarrel 164 = .ok (.getfield 13, 3) := by decide +kernel
theorem dX9_quarrel_167 : decode cX9_quarrel 167 = .ok (.iload_n 1, 1) := by decide +kernel
theorem dX9_quarrel_168 : decode cX9_quarrel 168 = .ok (.iconst 5, 1) := by decide +kernel
theorem dX9_quarrel_169 : decode cX9_quarrel 169 = .ok (.invokestatic 52, 3) := by decide +kernel
theorem dX9_quarrel_172 : decode cX9_quarrel 172 = .ok (.aload_n 0, 1) := by decide +kernel
theorem dX9_quarrel_173 : decode cX9_quarrel 173 = .ok (.getfield 13, 3) := by decide +kernel
theorem dX9_quarrel_176 : decode cX9_quarrel 176 = .ok (.iload_n 1, 1) := by decide +kernel
theorem dX9_quarrel_177 : decode cX9_quarrel 177 = .ok (.iconst 5, 1) := by decide +kernel
theorem dX9_quarrel_178 : decode cX9_quarrel 178 = .ok (.invokestatic 52, 3) := by decide +kernel
theorem dX9_quarrel_181 : decode cX9_quarrel 181 = .ok (.iaload, 1) := by decide +kernel
theorem dX9_quarrel_182 : decode cX9_quarrel 182 = .ok (.iload 10, 2) := by decide +kernel
theorem dX9_quarrel_184 : decode cX9_quarrel 184 = .ok (.iload 13, 2) := by decide +kernel
theorem dX9_quarrel_186 : decode cX9_quarrel 186 = .ok (.invokestatic 56, 3) := by decide +kernel
theorem dX9_quarrel_189 : decode cX9_quarrel 189 = .ok (.ifCond .eq 7, 3) := by decide +kernel
theorem dX9_quarrel_192 : decode cX9_quarrel 192 = .ok (.iconst 3, 1) := by decide +kernel
theorem dX9_quarrel_193 : decode cX9_quarrel 193 = .ok (.goto 4, 3) := by decide +kernel
theorem dX9_quarrel_196 : decode cX9_quarrel 196 = .ok (.iconst 0, 1) := by decide +kernel
theorem dX9_quarrel_197 : decode cX9_quarrel 197 = .ok (.iadd, 1) := by decide +kernel
theorem dX9_quarrel_198 : decode cX9_quarrel 198 = .ok (.invokestatic 75, 3) := by decide +kernel
theorem dX9_quarrel_201 : decode cX9_quarrel 201 = .ok (.iastore, 1) := by decide +kernel
theorem dX9_quarrel_202 : decode cX9_quarrel 202 = .ok (.aload_n 0, 1) := by decide +kernel
theorem dX9_quarrel_203 : decode cX9_quarrel 203 = .ok (.getfield 13, 3) := by decide +kernel
theorem dX9_quarrel_206 : decode cX9_quarrel 206 = .ok (.invokestatic 84, 3) := by decide +kernel
theorem dX9_quarrel_209 : decode cX9_quarrel 209 = .ok (.iinc 13 1, 3) := by decide +kernel
theorem dX9_quarrel_212 : decode cX9_quarrel 212 = .ok (.goto (-78), 3) := by decide +kernel
theorem dX9_quarrel_215 : decode cX9_quarrel 215 = .ok (.lload 6, 2) := by decide +kernel
theorem dX9_quarrel_217 : decode cX9_quarrel 217 = .ok (.aload_n 0, 1) := by decide +kernel
theorem dX9_quarrel_218 : decode cX9_quarrel 218 = .ok (.getfield 13, 3) := by decide +kernel
theorem dX9_quarrel_221 : decode cX9_quarrel 221 = .ok (.iload_n 1, 1) := by decide +kernel
theorem dX9_quarrel_222 : decode cX9_quarrel 222 = .ok (.iconst 5, 1) := by decide +kernel
theorem dX9_quarrel_223 : decode cX9_quarrel 223 = .ok (.invokestatic 52, 3) := by decide +kernel
theorem dX9_quarrel_226 : decode cX9_quarrel 226 = .ok (.iaload, 1) := by decide +kernel
theorem dX9_quarrel_227 : decode cX9_quarrel 227 = .ok (.iload 4, 2) := by decide +kernel
theorem dX9_quarrel_229 : decode cX9_quarrel 229 = .ok (.if_icmp .lt 8, 3) := by decide +kernel
theorem dX9_quarrel_232 : decode cX9_quarrel 232 = .ok (.lload 11, 2) := by decide +kernel
theorem dX9_quarrel_234 : decode cX9_quarrel 234 = .ok (.goto 4, 3) := by decide +kernel
theorem dX9_quarrel_237 : decode cX9_quarrel 237 = .ok (.lconst 0, 1) := by decide +kernel
theorem dX9_quarrel_238 : decode cX9_quarrel 238 = .ok (.ladd, 1) := by decide +kernel
theorem dX9_quarrel_239 : decode cX9_quarrel 239 = .ok (.lstore 6, 2) := by decide +kernel
theorem dX9_quarrel_241 : decode cX9_quarrel 241 = .ok (.iinc 10 1, 3) := by decide +kernel
theorem dX9_quarrel_244 : decode cX9_quarrel 244 = .ok (.goto (-135), 3) := by decide +kernel
theorem dX9_quarrel_247 : decode cX9_quarrel 247 = .ok (.lload 6, 2) := by decide +kernel
theorem dX9_quarrel_249 : decode cX9_quarrel 249 = .ok (.lload 8, 2) := by decide +kernel
theorem dX9_quarrel_251 : decode cX9_quarrel 251 = .ok (.iload 5, 2) := by decide +kernel
theorem dX9_quarrel_253 : decode cX9_quarrel 253 = .ok (.invokestatic 204, 3) := by decide +kernel
theorem dX9_quarrel_256 : decode cX9_quarrel 256 = .ok (.lreturn, 1) := by decide +kernel
theorem dX9_allOf_0 : decode cX9_allOf 0 = .ok (.iconst 0, 1) := by decide +kernel
theorem dX9_allOf_1 : decode cX9_allOf 1 = .ok (.istore_n 2, 1) := by decide +kernel
theorem dX9_allOf_2 : decode cX9_allOf 2 = .ok (.iconst 0, 1) := by decide +kernel
theorem dX9_allOf_3 : decode cX9_allOf 3 = .ok (.istore_n 3, 1) := by decide +kernel
theorem dX9_allOf_4 : decode cX9_allOf 4 = .ok (.iload_n 3, 1) := by decide +kernel
theorem dX9_allOf_5 : decode cX9_allOf 5 = .ok (.aload_n 0, 1) := by decide +kernel
theorem dX9_allOf_6 : decode cX9_allOf 6 = .ok (.iconst 0, 1) := by decide +kernel
theorem dX9_allOf_7 : decode cX9_allOf 7 = .ok (.iaload, 1) := by decide +kernel
theorem dX9_allOf_8 : decode cX9_allOf 8 = .ok (.if_icmp .ge 19, 3) := by decide +kernel
theorem dX9_allOf_11 : decode cX9_allOf 11 = .ok (.iload_n 2, 1) := by decide +kernel
theorem dX9_allOf_12 : decode cX9_allOf 12 = .ok (.aload_n 0, 1) := by decide +kernel
theorem dX9_allOf_13 : decode cX9_allOf 13 = .ok (.iload_n 3, 1) := by decide +kernel
theorem dX9_allOf_14 : decode cX9_allOf 14 = .ok (.iload_n 1, 1) := by decide +kernel
theorem dX9_allOf_15 : decode cX9_allOf 15 = .ok (.invokestatic 52, 3) := by decide +kernel
theorem dX9_allOf_18 : decode cX9_allOf 18 = .ok (.iaload, 1) := by decide +kernel
theorem dX9_allOf_19 : decode cX9_allOf 19 = .ok (.iadd, 1) := by decide +kernel
theorem dX9_allOf_20 : decode cX9_allOf 20 = .ok (.istore_n 2, 1) := by decide +kernel
theorem dX9_allOf_21 : decode cX9_allOf 21 = .ok (.iinc 3 1, 3) := by decide +kernel
theorem dX9_allOf_24 : decode cX9_allOf 24 = .ok (.goto (-20), 3) := by decide +kernel
theorem dX9_allOf_27 : decode cX9_allOf 27 = .ok (.iload_n 2, 1) := by decide +kernel
theorem dX9_allOf_28 : decode cX9_allOf 28 = .ok (.ireturn, 1) := by decide +kernel
theorem dX9_mean_0 : decode cX9_mean 0 = .ok (.iload_n 1, 1) := by decide +kernel
theorem dX9_mean_1 : decode cX9_mean 1 = .ok (.iconst 0, 1) := by decide +kernel
theorem dX9_mean_2 : decode cX9_mean 2 = .ok (.iconst 1, 1) := by decide +kernel
theorem dX9_mean_3 : decode cX9_mean 3 = .ok (.invokestatic 44, 3) := by decide +kernel
theorem dX9_mean_6 : decode cX9_mean 6 = .ok (.ifCond .eq 26, 3) := by decide +kernel
theorem dX9_mean_9 : decode cX9_mean 9 = .ok (.aload_n 0, 1) := by decide +kernel
theorem dX9_mean_10 : decode cX9_mean 10 = .ok (.getfield 9, 3) := by decide +kernel
theorem dX9_mean_13 : decode cX9_mean 13 = .ok (.iconst 4, 1) := by decide +kernel
theorem dX9_mean_14 : decode cX9_mean 14 = .ok (.invokestatic 208, 3) := by decide +kernel
theorem dX9_mean_17 : decode cX9_mean 17 = .ok (.i2l, 1) := by decide +kernel
theorem dX9_mean_18 : decode cX9_mean 18 = .ok (.aload_n 0, 1) := by decide +kernel
theorem dX9_mean_19 : decode cX9_mean 19 = .ok (.getfield 9, 3) := by decide +kernel
theorem dX9_mean_22 : decode cX9_mean 22 = .ok (.iconst 0, 1) := by decide +kernel
theorem dX9_mean_23 : decode cX9_mean 23 = .ok (.iaload, 1) := by decide +kernel
theorem dX9_mean_24 : decode cX9_mean 24 = .ok (.i2l, 1) := by decide +kernel
theorem dX9_mean_25 : decode cX9_mean 25 = .ok (.iload_n 1, 1) := by decide +kernel
theorem dX9_mean_26 : decode cX9_mean 26 = .ok (.invokestatic 204, 3) := by decide +kernel
theorem dX9_mean_29 : decode cX9_mean 29 = .ok (.goto 9, 3) := by decide +kernel
theorem dX9_mean_32 : decode cX9_mean 32 = .ok (.aload_n 0, 1) := by decide +kernel
theorem dX9_mean_33 : decode cX9_mean 33 = .ok (.bipush (-2), 2) := by decide +kernel
theorem dX9_mean_35 : decode cX9_mean 35 = .ok (.invokevirtual 200, 3) := by decide +kernel
theorem dX9_mean_38 : decode cX9_mean 38 = .ok (.lreturn, 1) := by decide +kernel
theorem dX9_whatIs_0 : decode cX9_whatIs 0 = .ok (.aload_n 0, 1) := by decide +kernel
theorem dX9_whatIs_1 : decode cX9_whatIs 1 = .ok (.iload_n 1, 1) := by decide +kernel
theorem dX9_whatIs_2 : decode cX9_whatIs 2 = .ok (.invokevirtual 48, 3) := by decide +kernel
theorem dX9_whatIs_5 : decode cX9_whatIs 5 = .ok (.ifCond .ne 9, 3) := by decide +kernel
theorem dX9_whatIs_8 : decode cX9_whatIs 8 = .ok (.aload_n 0, 1) := by decide +kernel
theorem dX9_whatIs_9 : decode cX9_whatIs 9 = .ok (.iconst (-1), 1) := by decide +kernel
theorem dX9_whatIs_10 : decode cX9_whatIs 10 = .ok (.invokevirtual 38, 3) := by decide +kernel
theorem dX9_whatIs_13 : decode cX9_whatIs 13 = .ok (.ireturn, 1) := by decide +kernel
theorem dX9_whatIs_14 : decode cX9_whatIs 14 = .ok (.iload_n 2, 1) := by decide +kernel
theorem dX9_whatIs_15 : decode cX9_whatIs 15 = .ok (.iconst 0, 1) := by decide +kernel
theorem dX9_whatIs_16 : decode cX9_whatIs 16 = .ok (.iconst 1, 1) := by decide +kernel
theorem dX9_whatIs_17 : decode cX9_whatIs 17 = .ok (.invokestatic 44, 3) := by decide +kernel
theorem dX9_whatIs_20 : decode cX9_whatIs 20 = .ok (.ifCond .ne 10, 3) := by decide +kernel
theorem dX9_whatIs_23 : decode cX9_whatIs 23 = .ok (.aload_n 0, 1) := by decide +kernel
theorem dX9_whatIs_24 : decode cX9_whatIs 24 = .ok (.bipush (-2), 2) := by decide +kernel
theorem dX9_whatIs_26 : decode cX9_whatIs 26 = .ok (.invokevirtual 38, 3) := by decide +kernel
theorem dX9_whatIs_29 : decode cX9_whatIs 29 = .ok (.ireturn, 1) := by decide +kernel
theorem dX9_whatIs_30 : decode cX9_whatIs 30 = .ok (.aload_n 0, 1) := by decide +kernel
theorem dX9_whatIs_31 : decode cX9_whatIs 31 = .ok (.getfield 9, 3) := by decide +kernel
theorem dX9_whatIs_34 : decode cX9_whatIs 34 = .ok (.iload_n 1, 1) := by decide +kernel
theorem dX9_whatIs_35 : decode cX9_whatIs 35 = .ok (.iconst 3, 1) := by decide +kernel
theorem dX9_whatIs_36 : decode cX9_whatIs 36 = .ok (.invokestatic 52, 3) := by decide +kernel
theorem dX9_whatIs_39 : decode cX9_whatIs 39 = .ok (.iaload, 1) := by decide +kernel
theorem dX9_whatIs_40 : decode cX9_whatIs 40 = .ok (.istore_n 3, 1) := by decide +kernel
theorem dX9_whatIs_41 : decode cX9_whatIs 41 = .ok (.iconst 0, 1) := by decide +kernel
theorem dX9_whatIs_42 : decode cX9_whatIs 42 = .ok (.istore 4, 2) := by decide +kernel
theorem dX9_whatIs_44 : decode cX9_whatIs 44 = .ok (.iconst 0, 1) := by decide +kernel
theorem dX9_whatIs_45 : decode cX9_whatIs 45 = .ok (.istore 5, 2) := by decide +kernel
theorem dX9_whatIs_47 : decode cX9_whatIs 47 = .ok (.iload 5, 2) := by decide +kernel
theorem dX9_whatIs_49 : decode cX9_whatIs 49 = .ok (.iload_n 2, 1) := by decide +kernel
theorem dX9_whatIs_50 : decode cX9_whatIs 50 = .ok (.ifCond .ne 8, 3) := by decide +kernel
theorem dX9_whatIs_53 : decode cX9_whatIs 53 = .ok (.bipush 6, 2) := by decide +kernel
theorem dX9_whatIs_55 : decode cX9_whatIs 55 = .ok (.goto 5, 3) := by decide +kernel
theorem dX9_whatIs_58 : decode cX9_whatIs 58 = .ok (.bipush 10, 2) := by decide +kernel
theorem dX9_whatIs_60 : decode cX9_whatIs 60 = .ok (.if_icmp .ge 114, 3) := by decide +kernel
theorem dX9_whatIs_63 : decode cX9_whatIs 63 = .ok (.iload_n 3, 1) := by decide +kernel
theorem dX9_whatIs_64 : decode cX9_whatIs 64 = .ok (.bipush 9, 2) := by decide +kernel
theorem dX9_whatIs_66 : decode cX9_whatIs 66 = .ok (.if_icmp .eq 108, 3) := by decide +kernel
theorem dX9_whatIs_69 : decode cX9_whatIs 69 = .ok (.iconst 1, 1) := by decide +kernel
theorem dX9_whatIs_70 : decode cX9_whatIs 70 = .ok (.istore 6, 2) := by decide +kernel
theorem dX9_whatIs_72 : decode cX9_whatIs 72 = .ok (.aload_n 0, 1) := by decide +kernel
theorem dX9_whatIs_73 : decode cX9_whatIs 73 = .ok (.getfield 9, 3) := by decide +kernel
theorem dX9_whatIs_76 : decode cX9_whatIs 76 = .ok (.aload_n 0, 1) := by decide +kernel
theorem dX9_whatIs_77 : decode cX9_whatIs 77 = .ok (.getfield 13, 3) := by decide +kernel
theorem dX9_whatIs_80 : decode cX9_whatIs 80 = .ok (.invokestatic 133, 3) := by decide +kernel
theorem dX9_whatIs_83 : decode cX9_whatIs 83 = .ok (.aload_n 0, 1) := by decide +kernel
theorem dX9_whatIs_84 : decode cX9_whatIs 84 = .ok (.getfield 13, 3) := by decide +kernel
theorem dX9_whatIs_87 : decode cX9_whatIs 87 = .ok (.iload_n 1, 1) := by decide +kernel
theorem dX9_whatIs_88 : decode cX9_whatIs 88 = .ok (.iload_n 2, 1) := by decide +kernel
theorem dX9_whatIs_89 : decode cX9_whatIs 89 = .ok (.invokestatic 52, 3) := by decide +kernel
theorem dX9_whatIs_92 : decode cX9_whatIs 92 = .ok (.iload 5, 2) := by decide +kernel
theorem dX9_whatIs_94 : decode cX9_whatIs 94 = .ok (.iastore, 1) := by decide +kernel
theorem dX9_whatIs_95 : decode cX9_whatIs 95 = .ok (.iconst 0, 1) := by decide +kernel
theorem dX9_whatIs_96 : decode cX9_whatIs 96 = .ok (.istore 7, 2) := by decide +kernel
theorem dX9_whatIs_98 : decode cX9_whatIs 98 = .ok (.iload 7, 2) := by decide +kernel
theorem dX9_whatIs_100 : decode cX9_whatIs 100 = .ok (.aload_n 0, 1) := by decide +kernel
theorem dX9_whatIs_101 : decode cX9_whatIs 101 = .ok (.getfield 189, 3) := by decide +kernel
theorem dX9_whatIs_104 : decode cX9_whatIs 104 = .ok (.if_icmp .ge 46, 3) := by decide +kernel
theorem dX9_whatIs_107 : decode cX9_whatIs 107 = .ok (.iload 6, 2) := by decide +kernel
theorem dX9_whatIs_109 : decode cX9_whatIs 109 = .ok (.aload_n 0, 1) := by decide +kernel
theorem dX9_whatIs_110 : decode cX9_whatIs 110 = .ok (.getfield 13, 3) := by decide +kernel
theorem dX9_whatIs_113 : decode cX9_whatIs 113 = .ok (.iload_n 3, 1) := by decide +kernel
theorem dX9_whatIs_114 : decode cX9_whatIs 114 = .ok (.iconst 4, 1) := by decide +kernel
theorem dX9_whatIs_115 : decode cX9_whatIs 115 = .ok (.invokestatic 52, 3) := by decide +kernel
theorem dX9_whatIs_118 : decode cX9_whatIs 118 = .ok (.iaload, 1) := by decide +kernel
theorem dX9_whatIs_119 : decode cX9_whatIs 119 = .ok (.aload_n 0, 1) := by decide +kernel
theorem dX9_whatIs_120 : decode cX9_whatIs 120 = .ok (.getfield 28, 3) := by decide +kernel
theorem dX9_whatIs_123 : decode cX9_whatIs 123 = .ok (.iload 7, 2) := by decide +kernel
theorem dX9_whatIs_125 : decode cX9_whatIs 125 = .ok (.iaload, 1) := by decide +kernel
theorem dX9_whatIs_126 : decode cX9_whatIs 126 = .ok (.if_icmp .ne 7, 3) := by decide +kernel
theorem dX9_whatIs_129 : decode cX9_whatIs 129 = .ok (.iconst 1, 1) := by decide +kernel
theorem dX9_whatIs_130 : decode cX9_whatIs 130 = .ok (.goto 4, 3) := by decide +kernel
theorem dX9_whatIs_133 : decode cX9_whatIs 133 = .ok (.iconst 0, 1) := by decide +kernel
theorem dX9_whatIs_134 : decode cX9_whatIs 134 = .ok (.iand, 1) := by decide +kernel
theorem dX9_whatIs_135 : decode cX9_whatIs 135 = .ok (.istore 6, 2) := by decide +kernel
theorem dX9_whatIs_137 : decode cX9_whatIs 137 = .ok (.aload_n 0, 1) := by decide +kernel
theorem dX9_whatIs_138 : decode cX9_whatIs 138 = .ok (.getfield 13, 3) := by decide +kernel
theorem dX9_whatIs_141 : decode cX9_whatIs 141 = .ok (.invokestatic 84, 3) := by decide +kernel
theorem dX9_whatIs_144 : decode cX9_whatIs 144 = .ok (.iinc 7 1, 3) := by decide +kernel
theorem dX9_whatIs_147 : decode cX9_whatIs 147 = .ok (.goto (-49), 3) := by decide +kernel
theorem dX9_whatIs_150 : decode cX9_whatIs 150 = .ok (.iload 4, 2) := by decide +kernel
theorem dX9_whatIs_152 : decode cX9_whatIs 152 = .ok (.iload 6, 2) := by decide +kernel
theorem dX9_whatIs_154 : decode cX9_whatIs 154 = .ok (.ifCond .eq 10, 3) := by decide +kernel
theorem dX9_whatIs_157 : decode cX9_whatIs 157 = .ok (.iconst 1, 1) := by decide +kernel
theorem dX9_whatIs_158 : decode cX9_whatIs 158 = .ok (.iload 5, 2) := by decide +kernel
theorem dX9_whatIs_160 : decode cX9_whatIs 160 = .ok (.ishl, 1) := by decide +kernel
theorem dX9_whatIs_161 : decode cX9_whatIs 161 = .ok (.goto 4, 3) := by decide +kernel
theorem dX9_whatIs_164 : decode cX9_whatIs 164 = .ok (.iconst 0, 1) := by decide +kernel
theorem dX9_whatIs_165 : decode cX9_whatIs 165 = .ok (.ior, 1) := by decide +kernel
theorem dX9_whatIs_166 : decode cX9_whatIs 166 = .ok (.istore 4, 2) := by decide +kernel
theorem dX9_whatIs_168 : decode cX9_whatIs 168 = .ok (.iinc 5 1, 3) := by decide +kernel
theorem dX9_whatIs_171 : decode cX9_whatIs 171 = .ok (.goto (-124), 3) := by decide +kernel
theorem dX9_whatIs_174 : decode cX9_whatIs 174 = .ok (.iload 4, 2) := by decide +kernel
theorem dX9_whatIs_176 : decode cX9_whatIs 176 = .ok (.ireturn, 1) := by decide +kernel
theorem dX9_row_0 : decode cX9_row 0 = .ok (.iload_n 1, 1) := by decide +kernel
theorem dX9_row_1 : decode cX9_row 1 = .ok (.bipush 99, 2) := by decide +kernel
theorem dX9_row_3 : decode cX9_row 3 = .ok (.invokestatic 150, 3) := by decide +kernel
theorem dX9_row_6 : decode cX9_row 6 = .ok (.istore_n 2, 1) := by decide +kernel
theorem dX9_row_7 : decode cX9_row 7 = .ok (.iload_n 2, 1) := by decide +kernel
theorem dX9_row_8 : decode cX9_row 8 = .ok (.ifCond .ne 15, 3) := by decide +kernel
theorem dX9_row_11 : decode cX9_row 11 = .ok (.aload_n 0, 1) := by decide +kernel
theorem dX9_row_12 : decode cX9_row 12 = .ok (.getfield 189, 3) := by decide +kernel
theorem dX9_row_15 : decode cX9_row 15 = .ok (.bipush 16, 2) := by decide +kernel
theorem dX9_row_17 : decode cX9_row 17 = .ok (.if_icmp .ne 6, 3) := by decide +kernel
theorem dX9_row_20 : decode cX9_row 20 = .ok (.bipush (-6), 2) := by decide +kernel
theorem dX9_row_22 : decode cX9_row 22 = .ok (.istore_n 2, 1) := by decide +kernel
theorem dX9_row_23 : decode cX9_row 23 = .ok (.iload_n 2, 1) := by decide +kernel
theorem dX9_row_24 : decode cX9_row 24 = .ok (.ifCond .eq 9, 3) := by decide +kernel
theorem dX9_row_27 : decode cX9_row 27 = .ok (.aload_n 0, 1) := by decide +kernel
theorem dX9_row_28 : decode cX9_row 28 = .ok (.iload_n 2, 1) := by decide +kernel
theorem dX9_row_29 : decode cX9_row 29 = .ok (.invokevirtual 38, 3) := by decide +kernel
theorem dX9_row_32 : decode cX9_row 32 = .ok (.ireturn, 1) := by decide +kernel
theorem dX9_row_33 : decode cX9_row 33 = .ok (.aload_n 0, 1) := by decide +kernel
theorem dX9_row_34 : decode cX9_row 34 = .ok (.getfield 28, 3) := by decide +kernel
theorem dX9_row_37 : decode cX9_row 37 = .ok (.aload_n 0, 1) := by decide +kernel
theorem dX9_row_38 : decode cX9_row 38 = .ok (.getfield 189, 3) := by decide +kernel
theorem dX9_row_41 : decode cX9_row 41 = .ok (.iload_n 1, 1) := by decide +kernel
theorem dX9_row_42 : decode cX9_row 42 = .ok (.iastore, 1) := by decide +kernel
theorem dX9_row_43 : decode cX9_row 43 = .ok (.aload_n 0, 1) := by decide +kernel
theorem dX9_row_44 : decode cX9_row 44 = .ok (.dup, 1) := by decide +kernel
theorem dX9_row_45 : decode cX9_row 45 = .ok (.getfield 189, 3) := by decide +kernel
theorem dX9_row_48 : decode cX9_row 48 = .ok (.iconst 1, 1) := by decide +kernel
theorem dX9_row_49 : decode cX9_row 49 = .ok (.iadd, 1) := by decide +kernel
theorem dX9_row_50 : decode cX9_row 50 = .ok (.putfield 189, 3) := by decide +kernel
theorem dX9_row_53 : decode cX9_row 53 = .ok (.aload_n 0, 1) := by decide +kernel
theorem dX9_row_54 : decode cX9_row 54 = .ok (.getfield 189, 3) := by decide +kernel
theorem dX9_row_57 : decode cX9_row 57 = .ok (.ireturn, 1) := by decide +kernel
theorem dX9_judge_0 : decode cX9_judge 0 = .ok (.aload_n 0, 1) := by decide +kernel
theorem dX9_judge_1 : decode cX9_judge 1 = .ok (.getfield 189, 3) := by decide +kernel
theorem dX9_judge_4 : decode cX9_judge 4 = .ok (.istore_n 1, 1) := by decide +kernel
theorem dX9_judge_5 : decode cX9_judge 5 = .ok (.aload_n 0, 1) := by decide +kernel
theorem dX9_judge_6 : decode cX9_judge 6 = .ok (.iconst 0, 1) := by decide +kernel
theorem dX9_judge_7 : decode cX9_judge 7 = .ok (.putfield 189, 3) := by decide +kernel
theorem dX9_judge_10 : decode cX9_judge 10 = .ok (.iconst 0, 1) := by decide +kernel
theorem dX9_judge_11 : decode cX9_judge 11 = .ok (.istore_n 2, 1) := by decide +kernel
theorem dX9_judge_12 : decode cX9_judge 12 = .ok (.iload_n 2, 1) := by decide +kernel
theorem dX9_judge_13 : decode cX9_judge 13 = .ok (.iload_n 1, 1) := by decide +kernel
theorem dX9_judge_14 : decode cX9_judge 14 = .ok (.if_icmp .ge 38, 3) := by decide +kernel
theorem dX9_judge_17 : decode cX9_judge 17 = .ok (.aload_n 0, 1) := by decide +kernel
theorem dX9_judge_18 : decode cX9_judge 18 = .ok (.iload_n 2, 1) := by decide +kernel
theorem dX9_judge_19 : decode cX9_judge 19 = .ok (.invokevirtual 48, 3) := by decide +kernel
theorem dX9_judge_22 : decode cX9_judge 22 = .ok (.ifCond .eq 22, 3) := by decide +kernel
theorem dX9_judge_25 : decode cX9_judge 25 = .ok (.aload_n 0, 1) := by decide +kernel
theorem dX9_judge_26 : decode cX9_judge 26 = .ok (.getfield 9, 3) := by decide +kernel
theorem dX9_judge_29 : decode cX9_judge 29 = .ok (.iload_n 2, 1) := by decide +kernel
theorem dX9_judge_30 : decode cX9_judge 30 = .ok (.iconst 5, 1) := by decide +kernel
theorem dX9_judge_31 : decode cX9_judge 31 = .ok (.invokestatic 52, 3) := by decide +kernel
theorem dX9_judge_34 : decode cX9_judge 34 = .ok (.iaload, 1) := by decide +kernel
theorem dX9_judge_35 : decode cX9_judge 35 = .ok (.aload_n 0, 1) := by decide +kernel
theorem dX9_judge_36 : decode cX9_judge 36 = .ok (.getfield 28, 3) := by decide +kernel
theorem dX9_judge_39 : decode cX9_judge 39 = .ok (.iload_n 2, 1) := by decide +kernel
theorem dX9_judge_40 : decode cX9_judge 40 = .ok (.iaload, 1) := by decide +kernel
theorem dX9_judge_41 : decode cX9_judge 41 = .ok (.if_icmp .eq 5, 3) := by decide +kernel
theorem dX9_judge_44 : decode cX9_judge 44 = .ok (.iload_n 2, 1) := by decide +kernel
theorem dX9_judge_45 : decode cX9_judge 45 = .ok (.ireturn, 1) := by decide +kernel
theorem dX9_judge_46 : decode cX9_judge 46 = .ok (.iinc 2 1, 3) := by decide +kernel
theorem dX9_judge_49 : decode cX9_judge 49 = .ok (.goto (-37), 3) := by decide +kernel
theorem dX9_judge_52 : decode cX9_judge 52 = .ok (.bipush (-9), 2) := by decide +kernel
theorem dX9_judge_54 : decode cX9_judge 54 = .ok (.ireturn, 1) := by decide +kernel
theorem dX9_clear_0 : decode cX9_clear 0 = .ok (.aload_n 0, 1) := by decide +kernel
theorem dX9_clear_1 : decode cX9_clear 1 = .ok (.getfield 189, 3) := by decide +kernel
theorem dX9_clear_4 : decode cX9_clear 4 = .ok (.istore_n 1, 1) := by decide +kernel
theorem dX9_clear_5 : decode cX9_clear 5 = .ok (.aload_n 0, 1) := by decide +kernel
theorem dX9_clear_6 : decode cX9_clear 6 = .ok (.iconst 0, 1) := by decide +kernel
theorem dX9_clear_7 : decode cX9_clear 7 = .ok (.putfield 189, 3) := by decide +kernel
theorem dX9_clear_10 : decode cX9_clear 10 = .ok (.iload_n 1, 1) := by decide +kernel
theorem dX9_clear_11 : decode cX9_clear 11 = .ok (.ireturn, 1) := by decide +kernel
theorem dX9_drawn_0 : decode cX9_drawn 0 = .ok (.aload_n 0, 1) := by decide +kernel
theorem dX9_drawn_1 : decode cX9_drawn 1 = .ok (.aload_n 0, 1) := by decide +kernel
theorem dX9_drawn_2 : decode cX9_drawn 2 = .ok (.getfield 211, 3) := by decide +kernel
theorem dX9_drawn_5 : decode cX9_drawn 5 = .ok (.ldc 214, 2) := by decide +kernel
theorem dX9_drawn_7 : decode cX9_drawn 7 = .ok (.imul, 1) := by decide +kernel
theorem dX9_drawn_8 : decode cX9_drawn 8 = .ok (.ldc 215, 2) := by decide +kernel
theorem dX9_drawn_10 : decode cX9_drawn 10 = .ok (.iadd, 1) := by decide +kernel
theorem dX9_drawn_11 : decode cX9_drawn 11 = .ok (.putfield 211, 3) := by decide +kernel
theorem dX9_drawn_14 : decode cX9_drawn 14 = .ok (.aload_n 0, 1) := by decide +kernel
theorem dX9_drawn_15 : decode cX9_drawn 15 = .ok (.getfield 211, 3) := by decide +kernel
theorem dX9_drawn_18 : decode cX9_drawn 18 = .ok (.ldc 216, 2) := by decide +kernel
theorem dX9_drawn_20 : decode cX9_drawn 20 = .ok (.iand, 1) := by decide +kernel
theorem dX9_drawn_21 : decode cX9_drawn 21 = .ok (.sipush 256, 3) := by decide +kernel
theorem dX9_drawn_24 : decode cX9_drawn 24 = .ok (.idiv, 1) := by decide +kernel
theorem dX9_drawn_25 : decode cX9_drawn 25 = .ok (.iload_n 1, 1) := by decide +kernel
theorem dX9_drawn_26 : decode cX9_drawn 26 = .ok (.irem, 1) := by decide +kernel
theorem dX9_drawn_27 : decode cX9_drawn 27 = .ok (.ireturn, 1) := by decide +kernel
theorem dX9_lots_0 : decode cX9_lots 0 = .ok (.iload_n 1, 1) := by decide +kernel
theorem dX9_lots_1 : decode cX9_lots 1 = .ok (.iconst 1, 1) := by decide +kernel
theorem dX9_lots_2 : decode cX9_lots 2 = .ok (.if_icmp .ge 10, 3) := by decide +kernel
theorem dX9_lots_5 : decode cX9_lots 5 = .ok (.aload_n 0, 1) := by decide +kernel
theorem dX9_lots_6 : decode cX9_lots 6 = .ok (.bipush (-4), 2) := by decide +kernel
theorem dX9_lots_8 : decode cX9_lots 8 = .ok (.invokevirtual 143, 3) := by decide +kernel
theorem dX9_lots_11 : decode cX9_lots 11 = .ok (.ireturn, 1) := by decide +kernel
theorem dX9_lots_12 : decode cX9_lots 12 = .ok (.iload_n 1, 1) := by decide +kernel
theorem dX9_lots_13 : decode cX9_lots 13 = .ok (.bipush 20, 2) := by decide +kernel
theorem dX9_lots_15 : decode cX9_lots 15 = .ok (.if_icmp .le 10, 3) := by decide +kernel
theorem dX9_lots_18 : decode cX9_lots 18 = .ok (.aload_n 0, 1) := by decide +kernel
theorem dX9_lots_19 : decode cX9_lots 19 = .ok (.bipush (-6), 2) := by decide +kernel
theorem dX9_lots_21 : decode cX9_lots 21 = .ok (.invokevirtual 143, 3) := by decide +kernel
theorem dX9_lots_24 : decode cX9_lots 24 = .ok (.ireturn, 1) := by decide +kernel
theorem dX9_lots_25 : decode cX9_lots 25 = .ok (.iload_n 3, 1) := by decide +kernel
theorem dX9_lots_26 : decode cX9_lots 26 = .ok (.iconst 0, 1) := by decide +kernel
theorem dX9_lots_27 : decode cX9_lots 27 = .ok (.iconst 1, 1) := by decide +kernel
theorem dX9_lots_28 : decode cX9_lots 28 = .ok (.invokestatic 44, 3) := by decide +kernel
theorem dX9_lots_31 : decode cX9_lots 31 = .ok (.ifCond .ne 10, 3) := by decide +kernel
theorem dX9_lots_34 : decode cX9_lots 34 = .ok (.aload_n 0, 1) := by decide +kernel
theorem dX9_lots_35 : decode cX9_lots 35 = .ok (.bipush (-2), 2) := by decide +kernel
theorem dX9_lots_37 : decode cX9_lots 37 = .ok (.invokevirtual 143, 3) := by decide +kernel
theorem dX9_lots_40 : decode cX9_lots 40 = .ok (.ireturn, 1) := by decide +kernel
theorem dX9_lots_41 : decode cX9_lots 41 = .ok (.aload_n 0, 1) := by decide +kernel
theorem dX9_lots_42 : decode cX9_lots 42 = .ok (.getfield 9, 3) := by decide +kernel
theorem dX9_lots_45 : decode cX9_lots 45 = .ok (.iconst 0, 1) := by decide +kernel
theorem dX9_lots_46 : decode cX9_lots 46 = .ok (.iaload, 1) := by decide +kernel
theorem dX9_lots_47 : decode cX9_lots 47 = .ok (.ifCond .ne 10, 3) := by decide +kernel
theorem dX9_lots_50 : decode cX9_lots 50 = .ok (.aload_n 0, 1) := by decide +kernel
theorem dX9_lots_51 : decode cX9_lots 51 = .ok (.bipush (-3), 2) := by decide +kernel
theorem dX9_lots_53 : decode cX9_lots 53 = .ok (.invokevirtual 143, 3) := by decide +kernel
theorem dX9_lots_56 : decode cX9_lots 56 = .ok (.ireturn, 1) := by decide +kernel
theorem dX9_lots_57 : decode cX9_lots 57 = .ok (.aload_n 0, 1) := by decide +kernel
theorem dX9_lots_58 : decode cX9_lots 58 = .ok (.iload_n 2, 1) := by decide +kernel
theorem dX9_lots_59 : decode cX9_lots 59 = .ok (.putfield 211, 3) := by decide +kernel
theorem dX9_lots_62 : decode cX9_lots 62 = .ok (.iconst 0, 1) := by decide +kernel
theorem dX9_lots_63 : decode cX9_lots 63 = .ok (.istore 4, 2) := by decide +kernel
theorem dX9_lots_65 : decode cX9_lots 65 = .ok (.iconst 0, 1) := by decide +kernel
theorem dX9_lots_66 : decode cX9_lots 66 = .ok (.istore 5, 2) := by decide +kernel
theorem dX9_lots_68 : decode cX9_lots 68 = .ok (.iload 5, 2) := by decide +kernel
theorem dX9_lots_70 : decode cX9_lots 70 = .ok (.iload_n 1, 1) := by decide +kernel
theorem dX9_lots_71 : decode cX9_lots 71 = .ok (.if_icmp .ge 120, 3) := by decide +kernel
theorem dX9_lots_74 : decode cX9_lots 74 = .ok (.aload_n 0, 1) := by decide +kernel
theorem dX9_lots_75 : decode cX9_lots 75 = .ok (.getfield 9, 3) := by decide +kernel
theorem dX9_lots_78 : decode cX9_lots 78 = .ok (.aload_n 0, 1) := by decide +kernel
theorem dX9_lots_79 : decode cX9_lots 79 = .ok (.getfield 13, 3) := by decide +kernel
theorem dX9_lots_82 : decode cX9_lots 82 = .ok (.invokestatic 133, 3) := by decide +kernel
theorem dX9_lots_85 : decode cX9_lots 85 = .ok (.iconst 0, 1) := by decide +kernel
theorem dX9_lots_86 : decode cX9_lots 86 = .ok (.istore 6, 2) := by decide +kernel
theorem dX9_lots_88 : decode cX9_lots 88 = .ok (.iload 6, 2) := by decide +kernel
theorem dX9_lots_90 : decode cX9_lots 90 = .ok (.iconst 4, 1) := by decide +kernel
theorem dX9_lots_91 : decode cX9_lots 91 = .ok (.if_icmp .ge 58, 3) := by decide +kernel
theorem dX9_lots_94 : decode cX9_lots 94 = .ok (.aload_n 0, 1) := by decide +kernel
theorem dX9_lots_95 : decode cX9_lots 95 = .ok (.aload_n 0, 1) := by decide +kernel
theorem dX9_lots_96 : decode cX9_lots 96 = .ok (.getfield 9, 3) := by decide +kernel
theorem dX9_lots_99 : decode cX9_lots 99 = .ok (.iconst 0, 1) := by decide +kernel
theorem dX9_lots_100 : decode cX9_lots 100 = .ok (.iaload, 1) := by decide +kernel
theorem dX9_lots_101 : decode cX9_lots 101 = .ok (.invokevirtual 217, 3) := by decide +kernel
theorem dX9_lots_104 : decode cX9_lots 104 = .ok (.istore 7, 2) := by decide +kernel
theorem dX9_lots_106 : decode cX9_lots 106 = .ok (.aload_n 0, 1) := by decide +kernel
theorem dX9_lots_107 : decode cX9_lots 107 = .ok (.aload_n 0, 1) := by decide +kernel
theorem dX9_lots_108 : decode cX9_lots 108 = .ok (.getfield 9, 3) := by decide +kernel
theorem dX9_lots_111 : decode cX9_lots 111 = .ok (.iconst 0, 1) := by decide +kernel
theorem dX9_lots_112 : decode cX9_lots 112 = .ok (.iaload, 1) := by decide +kernel
theorem dX9_lots_113 : decode cX9_lots 113 = .ok (.invokevirtual 217, 3) := by decide +kernel
theorem dX9_lots_116 : decode cX9_lots 116 = .ok (.istore 8, 2) := by decide +kernel
theorem dX9_lots_118 : decode cX9_lots 118 = .ok (.aload_n 0, 1) := by decide +kernel
theorem dX9_lots_119 : decode cX9_lots 119 = .ok (.getfield 13, 3) := by decide +kernel
theorem dX9_lots_122 : decode cX9_lots 122 = .ok (.iload 7, 2) := by decide +kernel
theorem dX9_lots_124 : decode cX9_lots 124 = .ok (.iload 8, 2) := by decide +kernel
theorem dX9_lots_126 : decode cX9_lots 126 = .ok (.invokestatic 118, 3) := by decide +kernel
theorem dX9_lots_129 : decode cX9_lots 129 = .ok (.ifCond .eq 14, 3) := by decide +kernel
theorem dX9_lots_132 : decode cX9_lots 132 = .ok (.aload_n 0, 1) := by decide +kernel
theorem dX9_lots_133 : decode cX9_lots 133 = .ok (.getfield 13, 3) := by decide +kernel
theorem dX9_lots_136 : decode cX9_lots 136 = .ok (.iload 7, 2) := by decide +kernel
theorem dX9_lots_138 : decode cX9_lots 138 = .ok (.iload 8, 2) := by decide +kernel
theorem dX9_lots_140 : decode cX9_lots 140 = .ok (.invokestatic 122, 3) := by decide +kernel
theorem dX9_lots_143 : decode cX9_lots 143 = .ok (.iinc 6 1, 3) := by decide +kernel
theorem dX9_lots_146 : decode cX9_lots 146 = .ok (.goto (-58), 3) := by decide +kernel
theorem dX9_lots_149 : decode cX9_lots 149 = .ok (.aload_n 0, 1) := by decide +kernel
theorem dX9_lots_150 : decode cX9_lots 150 = .ok (.getfield 13, 3) := by decide +kernel
theorem dX9_lots_153 : decode cX9_lots 153 = .ok (.bipush 6, 2) := by decide +kernel
theorem dX9_lots_155 : decode cX9_lots 155 = .ok (.invokestatic 126, 3) := by decide +kernel
theorem dX9_lots_158 : decode cX9_lots 158 = .ok (.iload 4, 2) := by decide +kernel
theorem dX9_lots_160 : decode cX9_lots 160 = .ok (.iload_n 3, 1) := by decide +kernel
theorem dX9_lots_161 : decode cX9_lots 161 = .ok (.ifCond .ne 13, 3) := by decide +kernel
theorem dX9_lots_164 : decode cX9_lots 164 = .ok (.aload_n 0, 1) := by decide +kernel
theorem dX9_lots_165 : decode cX9_lots 165 = .ok (.getfield 13, 3) := by decide +kernel
theorem dX9_lots_168 : decode cX9_lots 168 = .ok (.invokestatic 160, 3) := by decide +kernel
theorem dX9_lots_171 : decode cX9_lots 171 = .ok (.goto 11, 3) := by decide +kernel
theorem dX9_lots_174 : decode cX9_lots 174 = .ok (.aload_n 0, 1) := by decide +kernel
theorem dX9_lots_175 : decode cX9_lots 175 = .ok (.getfield 13, 3) := by decide +kernel
theorem dX9_lots_178 : decode cX9_lots 178 = .ok (.iconst 5, 1) := by decide +kernel
theorem dX9_lots_179 : decode cX9_lots 179 = .ok (.invokestatic 208, 3) := by decide +kernel
theorem dX9_lots_182 : decode cX9_lots 182 = .ok (.iadd, 1) := by decide +kernel
theorem dX9_lots_183 : decode cX9_lots 183 = .ok (.istore 4, 2) := by decide +kernel
theorem dX9_lots_185 : decode cX9_lots 185 = .ok (.iinc 5 1, 3) := by decide +kernel
theorem dX9_lots_188 : decode cX9_lots 188 = .ok (.goto (-120), 3) := by decide +kernel
theorem dX9_lots_191 : decode cX9_lots 191 = .ok (.iload 4, 2) := by decide +kernel
theorem dX9_lots_193 : decode cX9_lots 193 = .ok (.ireturn, 1) := by decide +kernel
theorem dX9_image_0 : decode cX9_image 0 = .ok (.aload_n 0, 1) := by decide +kernel
theorem dX9_image_1 : decode cX9_image 1 = .ok (.getfield 9, 3) := by decide +kernel
theorem dX9_image_4 : decode cX9_image 4 = .ok (.aload_n 0, 1) := by decide +kernel
theorem dX9_image_5 : decode cX9_image 5 = .ok (.getfield 16, 3) := by decide +kernel
theorem dX9_image_8 : decode cX9_image 8 = .ok (.invokestatic 133, 3) := by decide +kernel
theorem dX9_image_11 : decode cX9_image 11 = .ok (.aload_n 0, 1) := by decide +kernel
theorem dX9_image_12 : decode cX9_image 12 = .ok (.iconst 1, 1) := by decide +kernel
theorem dX9_image_13 : decode cX9_image 13 = .ok (.putfield 220, 3) := by decide +kernel
theorem dX9_image_16 : decode cX9_image 16 = .ok (.aload_n 0, 1) := by decide +kernel
theorem dX9_image_17 : decode cX9_image 17 = .ok (.getfield 9, 3) := by decide +kernel
theorem dX9_image_20 : decode cX9_image 20 = .ok (.iconst 1, 1) := by decide +kernel
theorem dX9_image_21 : decode cX9_image 21 = .ok (.iaload, 1) := by decide +kernel
theorem dX9_image_22 : decode cX9_image 22 = .ok (.ireturn, 1) := by decide +kernel
theorem dX9_on_0 : decode cX9_on 0 = .ok (.aload_n 0, 1) := by decide +kernel
theorem dX9_on_1 : decode cX9_on 1 = .ok (.getfield 220, 3) := by decide +kernel
theorem dX9_on_4 : decode cX9_on 4 = .ok (.ifCond .ne 10, 3) := by decide +kernel
theorem dX9_on_7 : decode cX9_on 7 = .ok (.aload_n 0, 1) := by decide +kernel
theorem dX9_on_8 : decode cX9_on 8 = .ok (.bipush (-3), 2) := by decide +kernel
theorem dX9_on_10 : decode cX9_on 10 = .ok (.invokevirtual 38, 3) := by decide +kernel
theorem dX9_on_13 : decode cX9_on 13 = .ok (.ireturn, 1) := by decide +kernel
theorem dX9_on_14 : decode cX9_on 14 = .ok (.aload_n 0, 1) := by decide +kernel
theorem dX9_on_15 : decode cX9_on 15 = .ok (.getfield 16, 3) := by decide +kernel
theorem dX9_on_18 : decode cX9_on 18 = .ok (.aload_n 0, 1) := by decide +kernel
theorem dX9_on_19 : decode cX9_on 19 = .ok (.getfield 9, 3) := by decide +kernel
theorem dX9_on_22 : decode cX9_on 22 = .ok (.invokestatic 133, 3) := by decide +kernel
theorem dX9_on_25 : decode cX9_on 25 = .ok (.aload_n 0, 1) := by decide +kernel
theorem dX9_on_26 : decode cX9_on 26 = .ok (.getfield 9, 3) := by decide +kernel
theorem dX9_on_29 : decode cX9_on 29 = .ok (.iconst 1, 1) := by decide +kernel
theorem dX9_on_30 : decode cX9_on 30 = .ok (.iaload, 1) := by decide +kernel
theorem dX9_on_31 : decode cX9_on 31 = .ok (.ireturn, 1) := by decide +kernel
theorem dX9_count_0 : decode cX9_count 0 = .ok (.iload_n 1, 1) := by decide +kernel
theorem dX9_count_1 : decode cX9_count 1 = .ok (.bipush 11, 2) := by decide +kernel
theorem dX9_count_3 : decode cX9_count 3 = .ok (.bipush 16, 2) := by decide +kernel
theorem dX9_count_5 : decode cX9_count 5 = .ok (.invokestatic 44, 3) := by decide +kernel
theorem dX9_count_8 : decode cX9_count 8 = .ok (.ifCond .eq 13, 3) := by decide +kernel
theorem dX9_count_11 : decode cX9_count 11 = .ok (.aload_n 0, 1) := by decide +kernel
theorem dX9_count_12 : decode cX9_count 12 = .ok (.getfield 31, 3) := by decide +kernel
theorem dX9_count_15 : decode cX9_count 15 = .ok (.iload_n 1, 1) := by decide +kernel
theorem dX9_count_16 : decode cX9_count 16 = .ok (.bipush 10, 2) := by decide +kernel
theorem dX9_count_18 : decode cX9_count 18 = .ok (.isub, 1) := by decide +kernel
theorem dX9_count_19 : decode cX9_count 19 = .ok (.iaload, 1) := by decide +kernel
theorem dX9_count_20 : decode cX9_count 20 = .ok (.ireturn, 1) := by decide +kernel
theorem dX9_count_21 : decode cX9_count 21 = .ok (.iload_n 1, 1) := by decide +kernel
theorem dX9_count_22 : decode cX9_count 22 = .ok (.tableswitch 97 0 7 #[46, 46, 53, 61, 70, 79, 87, 92], 46) := by decide +kernel
theorem dX9_count_68 : decode cX9_count 68 = .ok (.aload_n 0, 1) := by decide +kernel
theorem dX9_count_69 : decode cX9_count 69 = .ok (.getfield 9, 3) := by decide +kernel
theorem dX9_count_72 : decode cX9_count 72 = .ok (.iload_n 1, 1) := by decide +kernel
theorem dX9_count_73 : decode cX9_count 73 = .ok (.iaload, 1) := by decide +kernel
theorem dX9_count_74 : decode cX9_count 74 = .ok (.ireturn, 1) := by decide +kernel
theorem dX9_count_75 : decode cX9_count 75 = .ok (.aload_n 0, 1) := by decide +kernel
theorem dX9_count_76 : decode cX9_count 76 = .ok (.getfield 9, 3) := by decide +kernel
theorem dX9_count_79 : decode cX9_count 79 = .ok (.invokestatic 146, 3) := by decide +kernel
theorem dX9_count_82 : decode cX9_count 82 = .ok (.ireturn, 1) := by decide +kernel
theorem dX9_count_83 : decode cX9_count 83 = .ok (.aload_n 0, 1) := by decide +kernel
theorem dX9_count_84 : decode cX9_count 84 = .ok (.getfield 9, 3) := by decide +kernel
theorem dX9_count_87 : decode cX9_count 87 = .ok (.iconst 4, 1) := by decide +kernel
theorem dX9_count_88 : decode cX9_count 88 = .ok (.invokestatic 208, 3) := by decide +kernel
theorem dX9_count_91 : decode cX9_count 91 = .ok (.ireturn, 1) := by decide +kernel
theorem dX9_count_92 : decode cX9_count 92 = .ok (.aload_n 0, 1) := by decide +kernel
theorem dX9_count_93 : decode cX9_count 93 = .ok (.getfield 9, 3) := by decide +kernel
theorem dX9_count_96 : decode cX9_count 96 = .ok (.iconst 5, 1) := by decide +kernel
theorem dX9_count_97 : decode cX9_count 97 = .ok (.invokestatic 208, 3) := by decide +kernel
theorem dX9_count_100 : decode cX9_count 100 = .ok (.ireturn, 1) := by decide +kernel
theorem dX9_count_101 : decode cX9_count 101 = .ok (.aload_n 0, 1) := by decide +kernel
theorem dX9_count_102 : decode cX9_count 102 = .ok (.getfield 9, 3) := by decide +kernel
theorem dX9_count_105 : decode cX9_count 105 = .ok (.invokestatic 172, 3) := by decide +kernel
theorem dX9_count_108 : decode cX9_count 108 = .ok (.ireturn, 1) := by decide +kernel
theorem dX9_count_109 : decode cX9_count 109 = .ok (.aload_n 0, 1) := by decide +kernel
theorem dX9_count_110 : decode cX9_count 110 = .ok (.getfield 189, 3) := by decide +kernel
theorem dX9_count_113 : decode cX9_count 113 = .ok (.ireturn, 1) := by decide +kernel
theorem dX9_count_114 : decode cX9_count 114 = .ok (.aload_n 0, 1) := by decide +kernel
theorem dX9_count_115 : decode cX9_count 115 = .ok (.getfield 91, 3) := by decide +kernel
theorem dX9_count_118 : decode cX9_count 118 = .ok (.ireturn, 1) := by decide +kernel
theorem dX9_count_119 : decode cX9_count 119 = .ok (.bipush (-9), 2) := by decide +kernel
theorem dX9_count_121 : decode cX9_count 121 = .ok (.ireturn, 1) := by decide +kernel
theorem dJ11_isValidCodePoint_9a6ad_0 : decode cJ11_isValidCodePoint_9a6ad 0 = .ok (.iload_n 0, 1) := by decide +kernel
theorem dJ11_isValidCodePoint_9a6ad_1 : decode cJ11_isValidCodePoint_9a6ad 1 = .ok (.bipush 16, 2) := by decide +kernel
theorem dJ11_isValidCodePoint_9a6ad_3 : decode cJ11_isValidCodePoint_9a6ad 3 = .ok (.iushr, 1) := by decide +kernel
theorem dJ11_isValidCodePoint_9a6ad_4 : decode cJ11_isValidCodePoint_9a6ad 4 = .ok (.istore_n 1, 1) := by decide +kernel
theorem dJ11_isValidCodePoint_9a6ad_5 : decode cJ11_isValidCodePoint_9a6ad 5 = .ok (.iload_n 1, 1) := by decide +kernel
theorem dJ11_isValidCodePoint_9a6ad_6 : decode cJ11_isValidCodePoint_9a6ad 6 = .ok (.bipush 17, 2) := by decide +kernel
theorem dJ11_isValidCodePoint_9a6ad_8 : decode cJ11_isValidCodePoint_9a6ad 8 = .ok (.if_icmp .ge 7, 3) := by decide +kernel
theorem dJ11_isValidCodePoint_9a6ad_11 : decode cJ11_isValidCodePoint_9a6ad 11 = .ok (.iconst 1, 1) := by decide +kernel
theorem dJ11_isValidCodePoint_9a6ad_12 : decode cJ11_isValidCodePoint_9a6ad 12 = .ok (.goto 4, 3) := by decide +kernel
theorem dJ11_isValidCodePoint_9a6ad_15 : decode cJ11_isValidCodePoint_9a6ad 15 = .ok (.iconst 0, 1) := by decide +kernel
theorem dJ11_isValidCodePoint_9a6ad_16 : decode cJ11_isValidCodePoint_9a6ad 16 = .ok (.ireturn, 1) := by decide +kernel
theorem dJ11_highSurrogate_5068e_0 : decode cJ11_highSurrogate_5068e 0 = .ok (.iload_n 0, 1) := by decide +kernel
theorem dJ11_highSurrogate_5068e_1 : decode cJ11_highSurrogate_5068e 1 = .ok (.bipush 10, 2) := by decide +kernel
theorem dJ11_highSurrogate_5068e_3 : decode cJ11_highSurrogate_5068e 3 = .ok (.iushr, 1) := by decide +kernel
theorem dJ11_highSurrogate_5068e_4 : decode cJ11_highSurrogate_5068e 4 = .ok (.ldc 110, 2) := by decide +kernel
theorem dJ11_highSurrogate_5068e_6 : decode cJ11_highSurrogate_5068e 6 = .ok (.iadd, 1) := by decide +kernel
theorem dJ11_highSurrogate_5068e_7 : decode cJ11_highSurrogate_5068e 7 = .ok (.i2c, 1) := by decide +kernel
theorem dJ11_highSurrogate_5068e_8 : decode cJ11_highSurrogate_5068e 8 = .ok (.ireturn, 1) := by decide +kernel
theorem dJ11_lowSurrogate_5068e_0 : decode cJ11_lowSurrogate_5068e 0 = .ok (.iload_n 0, 1) := by decide +kernel
theorem dJ11_lowSurrogate_5068e_1 : decode cJ11_lowSurrogate_5068e 1 = .ok (.sipush 1023, 3) := by decide +kernel
theorem dJ11_lowSurrogate_5068e_4 : decode cJ11_lowSurrogate_5068e 4 = .ok (.iand, 1) := by decide +kernel
theorem dJ11_lowSurrogate_5068e_5 : decode cJ11_lowSurrogate_5068e 5 = .ok (.ldc 76, 2) := by decide +kernel
theorem dJ11_lowSurrogate_5068e_7 : decode cJ11_lowSurrogate_5068e 7 = .ok (.iadd, 1) := by decide +kernel
theorem dJ11_lowSurrogate_5068e_8 : decode cJ11_lowSurrogate_5068e 8 = .ok (.i2c, 1) := by decide +kernel
theorem dJ11_lowSurrogate_5068e_9 : decode cJ11_lowSurrogate_5068e 9 = .ok (.ireturn, 1) := by decide +kernel
theorem dJ9_max_7cf53_0 : decode cJ9_max_7cf53 0 = .ok (.iload_n 0, 1) := by decide +kernel
theorem dJ9_max_7cf53_1 : decode cJ9_max_7cf53 1 = .ok (.iload_n 1, 1) := by decide +kernel
theorem dJ9_max_7cf53_2 : decode cJ9_max_7cf53 2 = .ok (.if_icmp .lt 7, 3) := by decide +kernel
theorem dJ9_max_7cf53_5 : decode cJ9_max_7cf53 5 = .ok (.iload_n 0, 1) := by decide +kernel
theorem dJ9_max_7cf53_6 : decode cJ9_max_7cf53 6 = .ok (.goto 4, 3) := by decide +kernel
theorem dJ9_max_7cf53_9 : decode cJ9_max_7cf53 9 = .ok (.iload_n 1, 1) := by decide +kernel
theorem dJ9_max_7cf53_10 : decode cJ9_max_7cf53 10 = .ok (.ireturn, 1) := by decide +kernel
theorem dJ9_min_7cf53_0 : decode cJ9_min_7cf53 0 = .ok (.iload_n 0, 1) := by decide +kernel
theorem dJ9_min_7cf53_1 : decode cJ9_min_7cf53 1 = .ok (.iload_n 1, 1) := by decide +kernel
theorem dJ9_min_7cf53_2 : decode cJ9_min_7cf53 2 = .ok (.if_icmp .gt 7, 3) := by decide +kernel
theorem dJ9_min_7cf53_5 : decode cJ9_min_7cf53 5 = .ok (.iload_n 0, 1) := by decide +kernel
theorem dJ9_min_7cf53_6 : decode cJ9_min_7cf53 6 = .ok (.goto 4, 3) := by decide +kernel
theorem dJ9_min_7cf53_9 : decode cJ9_min_7cf53 9 = .ok (.iload_n 1, 1) := by decide +kernel
theorem dJ9_min_7cf53_10 : decode cJ9_min_7cf53 10 = .ok (.ireturn, 1) := by decide +kernel
theorem dJ0_length_8abf5_0 : decode cJ0_length_8abf5 0 = .ok (.aload_n 0, 1) := by decide +kernel
theorem dJ0_length_8abf5_1 : decode cJ0_length_8abf5 1 = .ok (.getfield 9, 3) := by decide +kernel
theorem dJ0_length_8abf5_4 : decode cJ0_length_8abf5 4 = .ok (.arraylength, 1) := by decide +kernel
theorem dJ0_length_8abf5_5 : decode cJ0_length_8abf5 5 = .ok (.aload_n 0, 1) := by decide +kernel
theorem dJ0_length_8abf5_6 : decode cJ0_length_8abf5 6 = .ok (.invokevirtual 335, 3) := by decide +kernel
theorem dJ0_length_8abf5_9 : decode cJ0_length_8abf5 9 = .ok (.ishr, 1) := by decide +kernel
theorem dJ0_length_8abf5_10 : decode cJ0_length_8abf5 10 = .ok (.ireturn, 1) := by decide +kernel
theorem dJ0_isEmpty_aae02_0 : decode cJ0_isEmpty_aae02 0 = .ok (.aload_n 0, 1) := by decide +kernel
theorem dJ0_isEmpty_aae02_1 : decode cJ0_isEmpty_aae02 1 = .ok (.getfield 9, 3) := by decide +kernel
theorem dJ0_isEmpty_aae02_4 : decode cJ0_isEmpty_aae02 4 = .ok (.arraylength, 1) := by decide +kernel
theorem dJ0_isEmpty_aae02_5 : decode cJ0_isEmpty_aae02 5 = .ok (.ifCond .ne 7, 3) := by decide +kernel
theorem dJ0_isEmpty_aae02_8 : decode cJ0_isEmpty_aae02 8 = .ok (.iconst 1, 1) := by decide +kernel
theorem dJ0_isEmpty_aae02_9 : decode cJ0_isEmpty_aae02 9 = .ok (.goto 4, 3) := by decide +kernel
theorem dJ0_isEmpty_aae02_12 : decode cJ0_isEmpty_aae02 12 = .ok (.iconst 0, 1) := by decide +kernel
theorem dJ0_isEmpty_aae02_13 : decode cJ0_isEmpty_aae02 13 = .ok (.ireturn, 1) := by decide +kernel
theorem dJ0_charAt_5068e_0 : decode cJ0_charAt_5068e 0 = .ok (.aload_n 0, 1) := by decide +kernel
theorem dJ0_charAt_5068e_1 : decode cJ0_charAt_5068e 1 = .ok (.invokevirtual 492, 3) := by decide +kernel
theorem dJ0_charAt_5068e_4 : decode cJ0_charAt_5068e 4 = .ok (.ifCond .eq 12, 3) := by decide +kernel
theorem dJ0_charAt_5068e_7 : decode cJ0_charAt_5068e 7 = .ok (.aload_n 0, 1) := by decide +kernel
theorem dJ0_charAt_5068e_8 : decode cJ0_charAt_5068e 8 = .ok (.getfield 9, 3) := by decide +kernel
theorem dJ0_charAt_5068e_11 : decode cJ0_charAt_5068e 11 = .ok (.iload_n 1, 1) := by decide +kernel
theorem dJ0_charAt_5068e_12 : decode cJ0_charAt_5068e 12 = .ok (.invokestatic 495, 3) := by decide +kernel
theorem dJ0_charAt_5068e_15 : decode cJ0_charAt_5068e 15 = .ok (.ireturn, 1) := by decide +kernel
theorem dJ0_charAt_5068e_16 : decode cJ0_charAt_5068e 16 = .ok (.aload_n 0, 1) := by decide +kernel
theorem dJ0_charAt_5068e_17 : decode cJ0_charAt_5068e 17 = .ok (.getfield 9, 3) := by decide +kernel
theorem dJ0_charAt_5068e_20 : decode cJ0_charAt_5068e 20 = .ok (.iload_n 1, 1) := by decide +kernel
theorem dJ0_charAt_5068e_21 : decode cJ0_charAt_5068e 21 = .ok (.invokestatic 498, 3) := by decide +kernel
theorem dJ0_charAt_5068e_24 : decode cJ0_charAt_5068e 24 = .ok (.ireturn, 1) := by decide +kernel
theorem dJ0_indexOf_0f7a4_0 : decode cJ0_indexOf_0f7a4 0 = .ok (.aload_n 0, 1) := by decide +kernel
theorem dJ0_indexOf_0f7a4_1 : decode cJ0_indexOf_0f7a4 1 = .ok (.iload_n 1, 1) := by decide +kernel
theorem dJ0_indexOf_0f7a4_2 : decode cJ0_indexOf_0f7a4 2 = .ok (.iconst 0, 1) := by decide +kernel
theorem dJ0_indexOf_0f7a4_3 : decode cJ0_indexOf_0f7a4 3 = .ok (.invokevirtual 633, 3) := by decide +kernel
theorem dJ0_indexOf_0f7a4_6 : decode cJ0_indexOf_0f7a4 6 = .ok (.ireturn, 1) := by decide +kernel
theorem dJ0_indexOf_7cf53_0 : decode cJ0_indexOf_7cf53 0 = .ok (.aload_n 0, 1) := by decide +kernel
theorem dJ0_indexOf_7cf53_1 : decode cJ0_indexOf_7cf53 1 = .ok (.invokevirtual 492, 3) := by decide +kernel
theorem dJ0_indexOf_7cf53_4 : decode cJ0_indexOf_7cf53 4 = .ok (.ifCond .eq 19, 3) := by decide +kernel
theorem dJ0_indexOf_7cf53_7 : decode cJ0_indexOf_7cf53 7 = .ok (.aload_n 0, 1) := by decide +kernel
theorem dJ0_indexOf_7cf53_8 : decode cJ0_indexOf_7cf53 8 = .ok (.getfield 9, 3) := by decide +kernel
theorem dJ0_indexOf_7cf53_11 : decode cJ0_indexOf_7cf53 11 = .ok (.iload_n 1, 1) := by decide +kernel
theorem dJ0_indexOf_7cf53_12 : decode cJ0_indexOf_7cf53 12 = .ok (.iload_n 2, 1) := by decide +kernel
theorem dJ0_indexOf_7cf53_13 : decode cJ0_indexOf_7cf53 13 = .ok (.aload_n 0, 1) := by decide +kernel
theorem dJ0_indexOf_7cf53_14 : decode cJ0_indexOf_7cf53 14 = .ok (.invokevirtual 505, 3) := by decide +kernel
theorem dJ0_indexOf_7cf53_17 : decode cJ0_indexOf_7cf53 17 = .ok (.invokestatic 637, 3) := by decide +kernel
theorem dJ0_indexOf_7cf53_20 : decode cJ0_indexOf_7cf53 20 = .ok (.goto 16, 3) := by decide +kernel
theorem dJ0_indexOf_7cf53_23 : decode cJ0_indexOf_7cf53 23 = .ok (.aload_n 0, 1) := by decide +kernel
theorem dJ0_indexOf_7cf53_24 : decode cJ0_indexOf_7cf53 24 = .ok (.getfield 9, 3) := by decide +kernel
theorem dJ0_indexOf_7cf53_27 : decode cJ0_indexOf_7cf53 27 = .ok (.iload_n 1, 1) := by decide +kernel
theorem dJ0_indexOf_7cf53_28 : decode cJ0_indexOf_7cf53 28 = .ok (.iload_n 2, 1) := by decide +kernel
theorem dJ0_indexOf_7cf53_29 : decode cJ0_indexOf_7cf53 29 = .ok (.aload_n 0, 1) := by decide +kernel
theorem dJ0_indexOf_7cf53_30 : decode cJ0_indexOf_7cf53 30 = .ok (.invokevirtual 505, 3) := by decide +kernel
theorem dJ0_indexOf_7cf53_33 : decode cJ0_indexOf_7cf53 33 = .ok (.invokestatic 640, 3) := by decide +kernel
theorem dJ0_indexOf_7cf53_36 : decode cJ0_indexOf_7cf53 36 = .ok (.ireturn, 1) := by decide +kernel
theorem dJ0_coder_7d493_0 : decode cJ0_coder_7d493 0 = .ok (.getstatic 38, 3) := by decide +kernel
theorem dJ0_coder_7d493_3 : decode cJ0_coder_7d493 3 = .ok (.ifCond .eq 10, 3) := by decide +kernel
theorem dJ0_coder_7d493_6 : decode cJ0_coder_7d493 6 = .ok (.aload_n 0, 1) := by decide +kernel
theorem dJ0_coder_7d493_7 : decode cJ0_coder_7d493 7 = .ok (.getfield 15, 3) := by decide +kernel
theorem dJ0_coder_7d493_10 : decode cJ0_coder_7d493 10 = .ok (.goto 4, 3) := by decide +kernel
theorem dJ0_coder_7d493_13 : decode cJ0_coder_7d493 13 = .ok (.iconst 1, 1) := by decide +kernel
theorem dJ0_coder_7d493_14 : decode cJ0_coder_7d493 14 = .ok (.ireturn, 1) := by decide +kernel
theorem dJ0_isLatin1_aae02_0 : decode cJ0_isLatin1_aae02 0 = .ok (.getstatic 38, 3) := by decide +kernel
theorem dJ0_isLatin1_aae02_3 : decode cJ0_isLatin1_aae02 3 = .ok (.ifCond .eq 14, 3) := by decide +kernel
theorem dJ0_isLatin1_aae02_6 : decode cJ0_isLatin1_aae02 6 = .ok (.aload_n 0, 1) := by decide +kernel
theorem dJ0_isLatin1_aae02_7 : decode cJ0_isLatin1_aae02 7 = .ok (.getfield 15, 3) := by decide +kernel
theorem dJ0_isLatin1_aae02_10 : decode cJ0_isLatin1_aae02 10 = .ok (.ifCond .ne 7, 3) := by decide +kernel
theorem dJ0_isLatin1_aae02_13 : decode cJ0_isLatin1_aae02 13 = .ok (.iconst 1, 1) := by decide +kernel
theorem dJ0_isLatin1_aae02_14 : decode cJ0_isLatin1_aae02 14 = .ok (.goto 4, 3) := by decide +kernel
theorem dJ0_isLatin1_aae02_17 : decode cJ0_isLatin1_aae02 17 = .ok (.iconst 0, 1) := by decide +kernel
theorem dJ0_isLatin1_aae02_18 : decode cJ0_isLatin1_aae02 18 = .ok (.ireturn, 1) := by decide +kernel
theorem dJ0_checkIndex_df160_0 : decode cJ0_checkIndex_df160 0 = .ok (.iload_n 0, 1) := by decide +kernel
theorem dJ0_checkIndex_df160_1 : decode cJ0_checkIndex_df160 1 = .ok (.iload_n 1, 1) := by decide +kernel
theorem dJ0_checkIndex_df160_2 : decode cJ0_checkIndex_df160 2 = .ok (.getstatic 1053, 3) := by decide +kernel
theorem dJ0_checkIndex_df160_5 : decode cJ0_checkIndex_df160 5 = .ok (.invokestatic 1059, 3) := by decide +kernel
theorem dJ0_checkIndex_df160_8 : decode cJ0_checkIndex_df160 8 = .ok (.pop, 1) := by decide +kernel
theorem dJ0_checkIndex_df160_9 : decode cJ0_checkIndex_df160 9 = .ok (.return_, 1) := by decide +kernel
theorem dJ0_checkBoundsBeginEnd_23922_0 : decode cJ0_checkBoundsBeginEnd_23922 0 = .ok (.iload_n 0, 1) := by decide +kernel
theorem dJ0_checkBoundsBeginEnd_23922_1 : decode cJ0_checkBoundsBeginEnd_23922 1 = .ok (.iload_n 1, 1) := by decide +kernel
theorem dJ0_checkBoundsBeginEnd_23922_2 : decode cJ0_checkBoundsBeginEnd_23922 2 = .ok (.iload_n 2, 1) := by decide +kernel
theorem dJ0_checkBoundsBeginEnd_23922_3 : decode cJ0_checkBoundsBeginEnd_23922 3 = .ok (.getstatic 1053, 3) := by decide +kernel
theorem dJ0_checkBoundsBeginEnd_23922_6 : decode cJ0_checkBoundsBeginEnd_23922 6 = .ok (.invokestatic 1062, 3) := by decide +kernel
theorem dJ0_checkBoundsBeginEnd_23922_9 : decode cJ0_checkBoundsBeginEnd_23922 9 = .ok (.pop, 1) := by decide +kernel
theorem dJ0_checkBoundsBeginEnd_23922_10 : decode cJ0_checkBoundsBeginEnd_23922 10 = .ok (.return_, 1) := by decide +kernel
theorem dJ1_charAt_3b067_0 : decode cJ1_charAt_3b067 0 = .ok (.iload_n 1, 1) := by decide +kernel
theorem dJ1_charAt_3b067_1 : decode cJ1_charAt_3b067 1 = .ok (.aload_n 0, 1) := by decide +kernel
theorem dJ1_charAt_3b067_2 : decode cJ1_charAt_3b067 2 = .ok (.arraylength, 1) := by decide +kernel
theorem dJ1_charAt_3b067_3 : decode cJ1_charAt_3b067 3 = .ok (.invokestatic 9, 3) := by decide +kernel
theorem dJ1_charAt_3b067_6 : decode cJ1_charAt_3b067 6 = .ok (.aload_n 0, 1) := by decide +kernel
theorem dJ1_charAt_3b067_7 : decode cJ1_charAt_3b067 7 = .ok (.iload_n 1, 1) := by decide +kernel
theorem dJ1_charAt_3b067_8 : decode cJ1_charAt_3b067 8 = .ok (.baload, 1) := by decide +kernel
theorem dJ1_charAt_3b067_9 : decode cJ1_charAt_3b067 9 = .ok (.sipush 255, 3) := by decide +kernel
theorem dJ1_charAt_3b067_12 : decode cJ1_charAt_3b067 12 = .ok (.iand, 1) := by decide +kernel
theorem dJ1_charAt_3b067_13 : decode cJ1_charAt_3b067 13 = .ok (.i2c, 1) := by decide +kernel
theorem dJ1_charAt_3b067_14 : decode cJ1_charAt_3b067 14 = .ok (.ireturn, 1) := by decide +kernel
theorem dJ1_canEncode_9a6ad_0 : decode cJ1_canEncode_9a6ad 0 = .ok (.iload_n 0, 1) := by decide +kernel
theorem dJ1_canEncode_9a6ad_1 : decode cJ1_canEncode_9a6ad 1 = .ok (.ifCond .lt 14, 3) := by decide +kernel
theorem dJ1_canEncode_9a6ad_4 : decode cJ1_canEncode_9a6ad 4 = .ok (.iload_n 0, 1) := by decide +kernel
theorem dJ1_canEncode_9a6ad_5 : decode cJ1_canEncode_9a6ad 5 = .ok (.sipush 255, 3) := by decide +kernel
theorem dJ1_canEncode_9a6ad_8 : decode cJ1_canEncode_9a6ad 8 = .ok (.if_icmp .gt 7, 3) := by decide +kernel
theorem dJ1_canEncode_9a6ad_11 : decode cJ1_canEncode_9a6ad 11 = .ok (.iconst 1, 1) := by decide +kernel
theorem dJ1_canEncode_9a6ad_12 : decode cJ1_canEncode_9a6ad 12 = .ok (.goto 4, 3) := by decide +kernel
theorem dJ1_canEncode_9a6ad_15 : decode cJ1_canEncode_9a6ad 15 = .ok (.iconst 0, 1) := by decide +kernel
theorem dJ1_canEncode_9a6ad_16 : decode cJ1_canEncode_9a6ad 16 = .ok (.ireturn, 1) := by decide +kernel
theorem dJ1_indexOf_4cfef_0 : decode cJ1_indexOf_4cfef 0 = .ok (.iload_n 1, 1) := by decide +kernel
theorem dJ1_indexOf_4cfef_1 : decode cJ1_indexOf_4cfef 1 = .ok (.invokestatic 88, 3) := by decide +kernel
theorem dJ1_indexOf_4cfef_4 : decode cJ1_indexOf_4cfef 4 = .ok (.ifCond .ne 5, 3) := by decide +kernel
theorem dJ1_indexOf_4cfef_7 : decode cJ1_indexOf_4cfef 7 = .ok (.iconst (-1), 1) := by decide +kernel
theorem dJ1_indexOf_4cfef_8 : decode cJ1_indexOf_4cfef 8 = .ok (.ireturn, 1) := by decide +kernel
theorem dJ1_indexOf_4cfef_9 : decode cJ1_indexOf_4cfef 9 = .ok (.iload_n 2, 1) := by decide +kernel
theorem dJ1_indexOf_4cfef_10 : decode cJ1_indexOf_4cfef 10 = .ok (.iconst 0, 1) := by decide +kernel
theorem dJ1_indexOf_4cfef_11 : decode cJ1_indexOf_4cfef 11 = .ok (.invokestatic 92, 3) := by decide +kernel
theorem dJ1_indexOf_4cfef_14 : decode cJ1_indexOf_4cfef 14 = .ok (.istore_n 2, 1) := by decide +kernel
theorem dJ1_indexOf_4cfef_15 : decode cJ1_indexOf_4cfef 15 = .ok (.iload_n 3, 1) := by decide +kernel
theorem dJ1_indexOf_4cfef_16 : decode cJ1_indexOf_4cfef 16 = .ok (.aload_n 0, 1) := by decide +kernel
theorem dJ1_indexOf_4cfef_17 : decode cJ1_indexOf_4cfef 17 = .ok (.arraylength, 1) := by decide +kernel
theorem dJ1_indexOf_4cfef_18 : decode cJ1_indexOf_4cfef 18 = .ok (.invokestatic 38, 3) := by decide +kernel
theorem dJ1_indexOf_4cfef_21 : decode cJ1_indexOf_4cfef 21 = .ok (.istore_n 3, 1) := by decide +kernel
theorem dJ1_indexOf_4cfef_22 : decode cJ1_indexOf_4cfef 22 = .ok (.iload_n 2, 1) := by decide +kernel
theorem dJ1_indexOf_4cfef_23 : decode cJ1_indexOf_4cfef 23 = .ok (.iload_n 3, 1) := by decide +kernel
theorem dJ1_indexOf_4cfef_24 : decode cJ1_indexOf_4cfef 24 = .ok (.if_icmp .lt 5, 3) := by decide +kernel
theorem dJ1_indexOf_4cfef_27 : decode cJ1_indexOf_4cfef 27 = .ok (.iconst (-1), 1) := by decide +kernel
theorem dJ1_indexOf_4cfef_28 : decode cJ1_indexOf_4cfef 28 = .ok (.ireturn, 1) := by decide +kernel
theorem dJ1_indexOf_4cfef_29 : decode cJ1_indexOf_4cfef 29 = .ok (.aload_n 0, 1) := by decide +kernel
theorem dJ1_indexOf_4cfef_30 : decode cJ1_indexOf_4cfef 30 = .ok (.iload_n 1, 1) := by decide +kernel
theorem dJ1_indexOf_4cfef_31 : decode cJ1_indexOf_4cfef 31 = .ok (.iload_n 2, 1) := by decide +kernel
theorem dJ1_indexOf_4cfef_32 : decode cJ1_indexOf_4cfef 32 = .ok (.iload_n 3, 1) := by decide +kernel
theorem dJ1_indexOf_4cfef_33 : decode cJ1_indexOf_4cfef 33 = .ok (.invokestatic 95, 3) := by decide +kernel
theorem dJ1_indexOf_4cfef_36 : decode cJ1_indexOf_4cfef 36 = .ok (.ireturn, 1) := by decide +kernel
theorem dJ1_indexOfChar_4cfef_0 : decode cJ1_indexOfChar_4cfef 0 = .ok (.iload_n 1, 1) := by decide +kernel
theorem dJ1_indexOfChar_4cfef_1 : decode cJ1_indexOfChar_4cfef 1 = .ok (.i2b, 1) := by decide +kernel
theorem dJ1_indexOfChar_4cfef_2 : decode cJ1_indexOfChar_4cfef 2 = .ok (.istore 4, 2) := by decide +kernel
theorem dJ1_indexOfChar_4cfef_4 : decode cJ1_indexOfChar_4cfef 4 = .ok (.iload_n 2, 1) := by decide +kernel
theorem dJ1_indexOfChar_4cfef_5 : decode cJ1_indexOfChar_4cfef 5 = .ok (.istore 5, 2) := by decide +kernel
theorem dJ1_indexOfChar_4cfef_7 : decode cJ1_indexOfChar_4cfef 7 = .ok (.iload 5, 2) := by decide +kernel
theorem dJ1_indexOfChar_4cfef_9 : decode cJ1_indexOfChar_4cfef 9 = .ok (.iload_n 3, 1) := by decide +kernel
theorem dJ1_indexOfChar_4cfef_10 : decode cJ1_indexOfChar_4cfef 10 = .ok (.if_icmp .ge 21, 3) := by decide +kernel
theorem dJ1_indexOfChar_4cfef_13 : decode cJ1_indexOfChar_4cfef 13 = .ok (.aload_n 0, 1) := by decide +kernel
theorem dJ1_indexOfChar_4cfef_14 : decode cJ1_indexOfChar_4cfef 14 = .ok (.iload 5, 2) := by decide +kernel
theorem dJ1_indexOfChar_4cfef_16 : decode cJ1_indexOfChar_4cfef 16 = .ok (.baload, 1) := by decide +kernel
theorem dJ1_indexOfChar_4cfef_17 : decode cJ1_indexOfChar_4cfef 17 = .ok (.iload 4, 2) := by decide +kernel
theorem dJ1_indexOfChar_4cfef_19 : decode cJ1_indexOfChar_4cfef 19 = .ok (.if_icmp .ne 6, 3) := by decide +kernel
theorem dJ1_indexOfChar_4cfef_22 : decode cJ1_indexOfChar_4cfef 22 = .ok (.iload 5, 2) := by decide +kernel
theorem dJ1_indexOfChar_4cfef_24 : decode cJ1_indexOfChar_4cfef 24 = .ok (.ireturn, 1) := by decide +kernel
theorem dJ1_indexOfChar_4cfef_25 : decode cJ1_indexOfChar_4cfef 25 = .ok (.iinc 5 1, 3) := by decide +kernel
theorem dJ1_indexOfChar_4cfef_28 : decode cJ1_indexOfChar_4cfef 28 = .ok (.goto (-21), 3) := by decide +kernel
theorem dJ1_indexOfChar_4cfef_31 : decode cJ1_indexOfChar_4cfef 31 = .ok (.iconst (-1), 1) := by decide +kernel
theorem dJ1_indexOfChar_4cfef_32 : decode cJ1_indexOfChar_4cfef 32 = .ok (.ireturn, 1) := by decide +kernel
theorem dJ2_getChar_3b067_0 : decode cJ2_getChar_3b067 0 = .ok (.getstatic 44, 3) := by decide +kernel
theorem dJ2_getChar_3b067_3 : decode cJ2_getChar_3b067 3 = .ok (.ifCond .ne 25, 3) := by decide +kernel
theorem dJ2_getChar_3b067_6 : decode cJ2_getChar_3b067 6 = .ok (.iload_n 1, 1) := by decide +kernel
theorem dJ2_getChar_3b067_7 : decode cJ2_getChar_3b067 7 = .ok (.ifCond .lt 11, 3) := by decide +kernel
theorem dJ2_getChar_3b067_10 : decode cJ2_getChar_3b067 10 = .ok (.iload_n 1, 1) := by decide +kernel
theorem dJ2_getChar_3b067_11 : decode cJ2_getChar_3b067 11 = .ok (.aload_n 0, 1) := by decide +kernel
theorem dJ2_getChar_3b067_12 : decode cJ2_getChar_3b067 12 = .ok (.invokestatic 48, 3) := by decide +kernel
theorem dJ2_getChar_3b067_15 : decode cJ2_getChar_3b067 15 = .ok (.if_icmp .lt 13, 3) := by decide +kernel
theorem dJ2_getChar_3b067_18 : decode cJ2_getChar_3b067 18 = .ok (.new 52, 3) := by decide +kernel
theorem dJ2_getChar_3b067_21 : decode cJ2_getChar_3b067 21 = .ok (.dup, 1) := by decide +kernel
theorem dJ2_getChar_3b067_22 : decode cJ2_getChar_3b067 22 = .ok (.ldc 54, 2) := by decide +kernel
theorem dJ2_getChar_3b067_24 : decode cJ2_getChar_3b067 24 = .ok (.invokespecial 56, 3) := by decide +kernel
theorem dJ2_getChar_3b067_27 : decode cJ2_getChar_3b067 27 = .ok (.athrow, 1) := by decide +kernel
theorem dJ2_getChar_3b067_28 : decode cJ2_getChar_3b067 28 = .ok (.iload_n 1, 1) := by decide +kernel
theorem dJ2_getChar_3b067_29 : decode cJ2_getChar_3b067 29 = .ok (.iconst 1, 1) := by decide +kernel
theorem dJ2_getChar_3b067_30 : decode cJ2_getChar_3b067 30 = .ok (.ishl, 1) := by decide +kernel
theorem dJ2_getChar_3b067_31 : decode cJ2_getChar_3b067 31 = .ok (.istore_n 1, 1) := by decide +kernel
theorem dJ2_getChar_3b067_32 : decode cJ2_getChar_3b067 32 = .ok (.aload_n 0, 1) := by decide +kernel
theorem dJ2_getChar_3b067_33 : decode cJ2_getChar_3b067 33 = .ok (.iload_n 1, 1) := by decide +kernel
theorem dJ2_getChar_3b067_34 : decode cJ2_getChar_3b067 34 = .ok (.iinc 1 1, 3) := by decide +kernel
theorem dJ2_getChar_3b067_37 : decode cJ2_getChar_3b067 37 = .ok (.baload, 1) := by decide +kernel
theorem dJ2_getChar_3b067_38 : decode cJ2_getChar_3b067 38 = .ok (.sipush 255, 3) := by decide +kernel
theorem dJ2_getChar_3b067_41 : decode cJ2_getChar_3b067 41 = .ok (.iand, 1) := by decide +kernel
theorem dJ2_getChar_3b067_42 : decode cJ2_getChar_3b067 42 = .ok (.getstatic 59, 3) := by decide +kernel
theorem dJ2_getChar_3b067_45 : decode cJ2_getChar_3b067 45 = .ok (.ishl, 1) := by decide +kernel
theorem dJ2_getChar_3b067_46 : decode cJ2_getChar_3b067 46 = .ok (.aload_n 0, 1) := by decide +kernel
theorem dJ2_getChar_3b067_47 : decode cJ2_getChar_3b067 47 = .ok (.iload_n 1, 1) := by decide +kernel
theorem dJ2_getChar_3b067_48 : decode cJ2_getChar_3b067 48 = .ok (.baload, 1) := by decide +kernel
theorem dJ2_getChar_3b067_49 : decode cJ2_getChar_3b067 49 = .ok (.sipush 255, 3) := by decide +kernel
theorem dJ2_getChar_3b067_52 : decode cJ2_getChar_3b067 52 = .ok (.iand, 1) := by decide +kernel
theorem dJ2_getChar_3b067_53 : decode cJ2_getChar_3b067 53 = .ok (.getstatic 63, 3) := by decide +kernel
theorem dJ2_getChar_3b067_56 : decode cJ2_getChar_3b067 56 = .ok (.ishl, 1) := by decide +kernel
theorem dJ2_getChar_3b067_57 : decode cJ2_getChar_3b067 57 = .ok (.ior, 1) := by decide +kernel
theorem dJ2_getChar_3b067_58 : decode cJ2_getChar_3b067 58 = .ok (.i2c, 1) := by decide +kernel
theorem dJ2_getChar_3b067_59 : decode cJ2_getChar_3b067 59 = .ok (.ireturn, 1) := by decide +kernel
theorem dJ2_length_9d52b_0 : decode cJ2_length_9d52b 0 = .ok (.aload_n 0, 1) := by decide +kernel
theorem dJ2_length_9d52b_1 : decode cJ2_length_9d52b 1 = .ok (.arraylength, 1) := by decide +kernel
theorem dJ2_length_9d52b_2 : decode cJ2_length_9d52b 2 = .ok (.iconst 1, 1) := by decide +kernel
theorem dJ2_length_9d52b_3 : decode cJ2_length_9d52b 3 = .ok (.ishr, 1) := by decide +kernel
theorem dJ2_length_9d52b_4 : decode cJ2_length_9d52b 4 = .ok (.ireturn, 1) := by decide +kernel
theorem dJ2_indexOf_4cfef_0 : decode cJ2_indexOf_4cfef 0 = .ok (.iload_n 2, 1) := by decide +kernel
theorem dJ2_indexOf_4cfef_1 : decode cJ2_indexOf_4cfef 1 = .ok (.iconst 0, 1) := by decide +kernel
theorem dJ2_indexOf_4cfef_2 : decode cJ2_indexOf_4cfef 2 = .ok (.invokestatic 224, 3) := by decide +kernel
theorem dJ2_indexOf_4cfef_5 : decode cJ2_indexOf_4cfef 5 = .ok (.istore_n 2, 1) := by decide +kernel
theorem dJ2_indexOf_4cfef_6 : decode cJ2_indexOf_4cfef 6 = .ok (.iload_n 3, 1) := by decide +kernel
theorem dJ2_indexOf_4cfef_7 : decode cJ2_indexOf_4cfef 7 = .ok (.aload_n 0, 1) := by decide +kernel
theorem dJ2_indexOf_4cfef_8 : decode cJ2_indexOf_4cfef 8 = .ok (.arraylength, 1) := by decide +kernel
theorem dJ2_indexOf_4cfef_9 : decode cJ2_indexOf_4cfef 9 = .ok (.iconst 1, 1) := by decide +kernel
theorem dJ2_indexOf_4cfef_10 : decode cJ2_indexOf_4cfef 10 = .ok (.ishr, 1) := by decide +kernel
theorem dJ2_indexOf_4cfef_11 : decode cJ2_indexOf_4cfef 11 = .ok (.invokestatic 183, 3) := by decide +kernel
theorem dJ2_indexOf_4cfef_14 : decode cJ2_indexOf_4cfef 14 = .ok (.istore_n 3, 1) := by decide +kernel
theorem dJ2_indexOf_4cfef_15 : decode cJ2_indexOf_4cfef 15 = .ok (.iload_n 2, 1) := by decide +kernel
theorem dJ2_indexOf_4cfef_16 : decode cJ2_indexOf_4cfef 16 = .ok (.iload_n 3, 1) := by decide +kernel
theorem dJ2_indexOf_4cfef_17 : decode cJ2_indexOf_4cfef 17 = .ok (.if_icmp .lt 5, 3) := by decide +kernel
theorem dJ2_indexOf_4cfef_20 : decode cJ2_indexOf_4cfef 20 = .ok (.iconst (-1), 1) := by decide +kernel
theorem dJ2_indexOf_4cfef_21 : decode cJ2_indexOf_4cfef 21 = .ok (.ireturn, 1) := by decide +kernel
theorem dJ2_indexOf_4cfef_22 : decode cJ2_indexOf_4cfef 22 = .ok (.iload_n 1, 1) := by decide +kernel
theorem dJ2_indexOf_4cfef_23 : decode cJ2_indexOf_4cfef 23 = .ok (.ldc 227, 2) := by decide +kernel
theorem dJ2_indexOf_4cfef_25 : decode cJ2_indexOf_4cfef 25 = .ok (.if_icmp .ge 11, 3) := by decide +kernel
theorem dJ2_indexOf_4cfef_28 : decode cJ2_indexOf_4cfef 28 = .ok (.aload_n 0, 1) := by decide +kernel
theorem dJ2_indexOf_4cfef_29 : decode cJ2_indexOf_4cfef 29 = .ok (.iload_n 1, 1) := by decide +kernel
theorem dJ2_indexOf_4cfef_30 : decode cJ2_indexOf_4cfef 30 = .ok (.iload_n 2, 1) := by decide +kernel
theorem dJ2_indexOf_4cfef_31 : decode cJ2_indexOf_4cfef 31 = .ok (.iload_n 3, 1) := by decide +kernel
theorem dJ2_indexOf_4cfef_32 : decode cJ2_indexOf_4cfef 32 = .ok (.invokestatic 228, 3) := by decide +kernel
theorem dJ2_indexOf_4cfef_35 : decode cJ2_indexOf_4cfef 35 = .ok (.ireturn, 1) := by decide +kernel
theorem dJ2_indexOf_4cfef_36 : decode cJ2_indexOf_4cfef 36 = .ok (.aload_n 0, 1) := by decide +kernel
theorem dJ2_indexOf_4cfef_37 : decode cJ2_indexOf_4cfef 37 = .ok (.iload_n 1, 1) := by decide +kernel
theorem dJ2_indexOf_4cfef_38 : decode cJ2_indexOf_4cfef 38 = .ok (.iload_n 2, 1) := by decide +kernel
theorem dJ2_indexOf_4cfef_39 : decode cJ2_indexOf_4cfef 39 = .ok (.iload_n 3, 1) := by decide +kernel
theorem dJ2_indexOf_4cfef_40 : decode cJ2_indexOf_4cfef 40 = .ok (.invokestatic 232, 3) := by decide +kernel
theorem dJ2_indexOf_4cfef_43 : decode cJ2_indexOf_4cfef 43 = .ok (.ireturn, 1) := by decide +kernel
theorem dJ2_indexOfChar_4cfef_0 : decode cJ2_indexOfChar_4cfef 0 = .ok (.iload_n 2, 1) := by decide +kernel
theorem dJ2_indexOfChar_4cfef_1 : decode cJ2_indexOfChar_4cfef 1 = .ok (.iload_n 3, 1) := by decide +kernel
theorem dJ2_indexOfChar_4cfef_2 : decode cJ2_indexOfChar_4cfef 2 = .ok (.aload_n 0, 1) := by decide +kernel
theorem dJ2_indexOfChar_4cfef_3 : decode cJ2_indexOfChar_4cfef 3 = .ok (.invokestatic 96, 3) := by decide +kernel
theorem dJ2_indexOfChar_4cfef_6 : decode cJ2_indexOfChar_4cfef 6 = .ok (.aload_n 0, 1) := by decide +kernel
theorem dJ2_indexOfChar_4cfef_7 : decode cJ2_indexOfChar_4cfef 7 = .ok (.iload_n 1, 1) := by decide +kernel
theorem dJ2_indexOfChar_4cfef_8 : decode cJ2_indexOfChar_4cfef 8 = .ok (.iload_n 2, 1) := by decide +kernel
theorem dJ2_indexOfChar_4cfef_9 : decode cJ2_indexOfChar_4cfef 9 = .ok (.iload_n 3, 1) := by decide +kernel
theorem dJ2_indexOfChar_4cfef_10 : decode cJ2_indexOfChar_4cfef 10 = .ok (.invokestatic 244, 3) := by decide +kernel
theorem dJ2_indexOfChar_4cfef_13 : decode cJ2_indexOfChar_4cfef 13 = .ok (.ireturn, 1) := by decide +kernel
theorem dJ2_indexOfCharUnsafe_4cfef_0 : decode cJ2_indexOfCharUnsafe_4cfef 0 = .ok (.iload_n 2, 1) := by decide +kernel
theorem dJ2_indexOfCharUnsafe_4cfef_1 : decode cJ2_indexOfCharUnsafe_4cfef 1 = .ok (.istore 4, 2) := by decide +kernel
theorem dJ2_indexOfCharUnsafe_4cfef_3 : decode cJ2_indexOfCharUnsafe_4cfef 3 = .ok (.iload 4, 2) := by decide +kernel
theorem dJ2_indexOfCharUnsafe_4cfef_5 : decode cJ2_indexOfCharUnsafe_4cfef 5 = .ok (.iload_n 3, 1) := by decide +kernel
theorem dJ2_indexOfCharUnsafe_4cfef_6 : decode cJ2_indexOfCharUnsafe_4cfef 6 = .ok (.if_icmp .ge 22, 3) := by decide +kernel
theorem dJ2_indexOfCharUnsafe_4cfef_9 : decode cJ2_indexOfCharUnsafe_4cfef 9 = .ok (.aload_n 0, 1) := by decide +kernel
theorem dJ2_indexOfCharUnsafe_4cfef_10 : decode cJ2_indexOfCharUnsafe_4cfef 10 = .ok (.iload 4, 2) := by decide +kernel
theorem dJ2_indexOfCharUnsafe_4cfef_12 : decode cJ2_indexOfCharUnsafe_4cfef 12 = .ok (.invokestatic 71, 3) := by decide +kernel
theorem dJ2_indexOfCharUnsafe_4cfef_15 : decode cJ2_indexOfCharUnsafe_4cfef 15 = .ok (.iload_n 1, 1) := by decide +kernel
theorem dJ2_indexOfCharUnsafe_4cfef_16 : decode cJ2_indexOfCharUnsafe_4cfef 16 = .ok (.if_icmp .ne 6, 3) := by decide +kernel
theorem dJ2_indexOfCharUnsafe_4cfef_19 : decode cJ2_indexOfCharUnsafe_4cfef 19 = .ok (.iload 4, 2) := by decide +kernel
theorem dJ2_indexOfCharUnsafe_4cfef_21 : decode cJ2_indexOfCharUnsafe_4cfef 21 = .ok (.ireturn, 1) := by decide +kernel
theorem dJ2_indexOfCharUnsafe_4cfef_22 : decode cJ2_indexOfCharUnsafe_4cfef 22 = .ok (.iinc 4 1, 3) := by decide +kernel
theorem dJ2_indexOfCharUnsafe_4cfef_25 : decode cJ2_indexOfCharUnsafe_4cfef 25 = .ok (.goto (-22), 3) := by decide +kernel
theorem dJ2_indexOfCharUnsafe_4cfef_28 : decode cJ2_indexOfCharUnsafe_4cfef 28 = .ok (.iconst (-1), 1) := by decide +kernel
theorem dJ2_indexOfCharUnsafe_4cfef_29 : decode cJ2_indexOfCharUnsafe_4cfef 29 = .ok (.ireturn, 1) := by decide +kernel
theorem dJ2_indexOfSupplementary_4cfef_0 : decode cJ2_indexOfSupplementary_4cfef 0 = .ok (.iload_n 1, 1) := by decide +kernel
theorem dJ2_indexOfSupplementary_4cfef_1 : decode cJ2_indexOfSupplementary_4cfef 1 = .ok (.invokestatic 164, 3) := by decide +kernel
theorem dJ2_indexOfSupplementary_4cfef_4 : decode cJ2_indexOfSupplementary_4cfef 4 = .ok (.ifCond .eq 65, 3) := by decide +kernel
theorem dJ2_indexOfSupplementary_4cfef_7 : decode cJ2_indexOfSupplementary_4cfef 7 = .ok (.iload_n 1, 1) := by decide +kernel
theorem dJ2_indexOfSupplementary_4cfef_8 : decode cJ2_indexOfSupplementary_4cfef 8 = .ok (.invokestatic 157, 3) := by decide +kernel
theorem dJ2_indexOfSupplementary_4cfef_11 : decode cJ2_indexOfSupplementary_4cfef 11 = .ok (.istore 4, 2) := by decide +kernel
theorem dJ2_indexOfSupplementary_4cfef_13 : decode cJ2_indexOfSupplementary_4cfef 13 = .ok (.iload_n 1, 1) := by decide +kernel
theorem dJ2_indexOfSupplementary_4cfef_14 : decode cJ2_indexOfSupplementary_4cfef 14 = .ok (.invokestatic 161, 3) := by decide +kernel
theorem dJ2_indexOfSupplementary_4cfef_17 : decode cJ2_indexOfSupplementary_4cfef 17 = .ok (.istore 5, 2) := by decide +kernel
theorem dJ2_indexOfSupplementary_4cfef_19 : decode cJ2_indexOfSupplementary_4cfef 19 = .ok (.iload_n 2, 1) := by decide +kernel
theorem dJ2_indexOfSupplementary_4cfef_20 : decode cJ2_indexOfSupplementary_4cfef 20 = .ok (.iload_n 3, 1) := by decide +kernel
theorem dJ2_indexOfSupplementary_4cfef_21 : decode cJ2_indexOfSupplementary_4cfef 21 = .ok (.aload_n 0, 1) := by decide +kernel
theorem dJ2_indexOfSupplementary_4cfef_22 : decode cJ2_indexOfSupplementary_4cfef 22 = .ok (.invokestatic 96, 3) := by decide +kernel
theorem dJ2_indexOfSupplementary_4cfef_25 : decode cJ2_indexOfSupplementary_4cfef 25 = .ok (.iload_n 2, 1) := by decide +kernel
theorem dJ2_indexOfSupplementary_4cfef_26 : decode cJ2_indexOfSupplementary_4cfef 26 = .ok (.istore 6, 2) := by decide +kernel
theorem dJ2_indexOfSupplementary_4cfef_28 : decode cJ2_indexOfSupplementary_4cfef 28 = .ok (.iload 6, 2) := by decide +kernel
theorem dJ2_indexOfSupplementary_4cfef_30 : decode cJ2_indexOfSupplementary_4cfef 30 = .ok (.iload_n 3, 1) := by decide +kernel
theorem dJ2_indexOfSupplementary_4cfef_31 : decode cJ2_indexOfSupplementary_4cfef 31 = .ok (.iconst 1, 1) := by decide +kernel
theorem dJ2_indexOfSupplementary_4cfef_32 : decode cJ2_indexOfSupplementary_4cfef 32 = .ok (.isub, 1) := by decide +kernel
theorem dJ2_indexOfSupplementary_4cfef_33 : decode cJ2_indexOfSupplementary_4cfef 33 = .ok (.if_icmp .ge 36, 3) := by decide +kernel
theorem dJ2_indexOfSupplementary_4cfef_36 : decode cJ2_indexOfSupplementary_4cfef 36 = .ok (.aload_n 0, 1) := by decide +kernel
theorem dJ2_indexOfSupplementary_4cfef_37 : decode cJ2_indexOfSupplementary_4cfef 37 = .ok (.iload 6, 2) := by decide +kernel
theorem dJ2_indexOfSupplementary_4cfef_39 : decode cJ2_indexOfSupplementary_4cfef 39 = .ok (.invokestatic 71, 3) := by decide +kernel
theorem dJ2_indexOfSupplementary_4cfef_42 : decode cJ2_indexOfSupplementary_4cfef 42 = .ok (.iload 4, 2) := by decide +kernel
theorem dJ2_indexOfSupplementary_4cfef_44 : decode cJ2_indexOfSupplementary_4cfef 44 = .ok (.if_icmp .ne 19, 3) := by decide +kernel
theorem dJ2_indexOfSupplementary_4cfef_47 : decode cJ2_indexOfSupplementary_4cfef 47 = .ok (.aload_n 0, 1) := by decide +kernel
theorem dJ2_indexOfSupplementary_4cfef_48 : decode cJ2_indexOfSupplementary_4cfef 48 = .ok (.iload 6, 2) := by decide +kernel
theorem dJ2_indexOfSupplementary_4cfef_50 : decode cJ2_indexOfSupplementary_4cfef 50 = .ok (.iconst 1, 1) := by decide +kernel
theorem dJ2_indexOfSupplementary_4cfef_51 : decode cJ2_indexOfSupplementary_4cfef 51 = .ok (.iadd, 1) := by decide +kernel
theorem dJ2_indexOfSupplementary_4cfef_52 : decode cJ2_indexOfSupplementary_4cfef 52 = .ok (.invokestatic 71, 3) := by decide +kernel
theorem dJ2_indexOfSupplementary_4cfef_55 : decode cJ2_indexOfSupplementary_4cfef 55 = .ok (.iload 5, 2) := by decide +kernel
theorem dJ2_indexOfSupplementary_4cfef_57 : decode cJ2_indexOfSupplementary_4cfef 57 = .ok (.if_icmp .ne 6, 3) := by decide +kernel
theorem dJ2_indexOfSupplementary_4cfef_60 : decode cJ2_indexOfSupplementary_4cfef 60 = .ok (.iload 6, 2) := by decide +kernel
theorem dJ2_indexOfSupplementary_4cfef_62 : decode cJ2_indexOfSupplementary_4cfef 62 = .ok (.ireturn, 1) := by decide +kernel
theorem dJ2_indexOfSupplementary_4cfef_63 : decode cJ2_indexOfSupplementary_4cfef 63 = .ok (.iinc 6 1, 3) := by decide +kernel
theorem dJ2_indexOfSupplementary_4cfef_66 : decode cJ2_indexOfSupplementary_4cfef 66 = .ok (.goto (-38), 3) := by decide +kernel
theorem dJ2_indexOfSupplementary_4cfef_69 : decode cJ2_indexOfSupplementary_4cfef 69 = .ok (.iconst (-1), 1) := by decide +kernel
theorem dJ2_indexOfSupplementary_4cfef_70 : decode cJ2_indexOfSupplementary_4cfef 70 = .ok (.ireturn, 1) := by decide +kernel
theorem dJ2_charAt_3b067_0 : decode cJ2_charAt_3b067 0 = .ok (.iload_n 1, 1) := by decide +kernel
theorem dJ2_charAt_3b067_1 : decode cJ2_charAt_3b067 1 = .ok (.aload_n 0, 1) := by decide +kernel
theorem dJ2_charAt_3b067_2 : decode cJ2_charAt_3b067 2 = .ok (.invokestatic 67, 3) := by decide +kernel
theorem dJ2_charAt_3b067_5 : decode cJ2_charAt_3b067 5 = .ok (.aload_n 0, 1) := by decide +kernel
theorem dJ2_charAt_3b067_6 : decode cJ2_charAt_3b067 6 = .ok (.iload_n 1, 1) := by decide +kernel
theorem dJ2_charAt_3b067_7 : decode cJ2_charAt_3b067 7 = .ok (.invokestatic 71, 3) := by decide +kernel
theorem dJ2_charAt_3b067_10 : decode cJ2_charAt_3b067 10 = .ok (.ireturn, 1) := by decide +kernel
theorem dJ2_checkIndex_2214a_0 : decode cJ2_checkIndex_2214a 0 = .ok (.iload_n 0, 1) := by decide +kernel
theorem dJ2_checkIndex_2214a_1 : decode cJ2_checkIndex_2214a 1 = .ok (.aload_n 1, 1) := by decide +kernel
theorem dJ2_checkIndex_2214a_2 : decode cJ2_checkIndex_2214a 2 = .ok (.invokestatic 48, 3) := by decide +kernel
theorem dJ2_checkIndex_2214a_5 : decode cJ2_checkIndex_2214a 5 = .ok (.invokestatic 414, 3) := by decide +kernel
theorem dJ2_checkIndex_2214a_8 : decode cJ2_checkIndex_2214a 8 = .ok (.return_, 1) := by decide +kernel
theorem dJ2_checkBoundsBeginEnd_d044e_0 : decode cJ2_checkBoundsBeginEnd_d044e 0 = .ok (.iload_n 0, 1) := by decide +kernel
theorem dJ2_checkBoundsBeginEnd_d044e_1 : decode cJ2_checkBoundsBeginEnd_d044e 1 = .ok (.iload_n 1, 1) := by decide +kernel
theorem dJ2_checkBoundsBeginEnd_d044e_2 : decode cJ2_checkBoundsBeginEnd_d044e 2 = .ok (.aload_n 2, 1) := by decide +kernel
theorem dJ2_checkBoundsBeginEnd_d044e_3 : decode cJ2_checkBoundsBeginEnd_d044e 3 = .ok (.invokestatic 48, 3) := by decide +kernel
theorem dJ2_checkBoundsBeginEnd_d044e_6 : decode cJ2_checkBoundsBeginEnd_d044e 6 = .ok (.invokestatic 241, 3) := by decide +kernel
theorem dJ2_checkBoundsBeginEnd_d044e_9 : decode cJ2_checkBoundsBeginEnd_d044e 9 = .ok (.return_, 1) := by decide +kernel
theorem dJ3_checkIndex_8e157_0 : decode cJ3_checkIndex_8e157 0 = .ok (.iload_n 0, 1) := by decide +kernel
theorem dJ3_checkIndex_8e157_1 : decode cJ3_checkIndex_8e157 1 = .ok (.ifCond .lt 8, 3) := by decide +kernel
theorem dJ3_checkIndex_8e157_4 : decode cJ3_checkIndex_8e157 4 = .ok (.iload_n 0, 1) := by decide +kernel
theorem dJ3_checkIndex_8e157_5 : decode cJ3_checkIndex_8e157 5 = .ok (.iload_n 1, 1) := by decide +kernel
theorem dJ3_checkIndex_8e157_6 : decode cJ3_checkIndex_8e157 6 = .ok (.if_icmp .lt 10, 3) := by decide +kernel
theorem dJ3_checkIndex_8e157_9 : decode cJ3_checkIndex_8e157 9 = .ok (.aload_n 2, 1) := by decide +kernel
theorem dJ3_checkIndex_8e157_10 : decode cJ3_checkIndex_8e157 10 = .ok (.iload_n 0, 1) := by decide +kernel
theorem dJ3_checkIndex_8e157_11 : decode cJ3_checkIndex_8e157 11 = .ok (.iload_n 1, 1) := by decide +kernel
theorem dJ3_checkIndex_8e157_12 : decode cJ3_checkIndex_8e157 12 = .ok (.invokestatic 95, 3) := by decide +kernel
theorem dJ3_checkIndex_8e157_15 : decode cJ3_checkIndex_8e157 15 = .ok (.athrow, 1) := by decide +kernel
theorem dJ3_checkIndex_8e157_16 : decode cJ3_checkIndex_8e157 16 = .ok (.iload_n 0, 1) := by decide +kernel
theorem dJ3_checkIndex_8e157_17 : decode cJ3_checkIndex_8e157 17 = .ok (.ireturn, 1) := by decide +kernel
theorem dJ3_checkFromToIndex_8c36e_0 : decode cJ3_checkFromToIndex_8c36e 0 = .ok (.iload_n 0, 1) := by decide +kernel
theorem dJ3_checkFromToIndex_8c36e_1 : decode cJ3_checkFromToIndex_8c36e 1 = .ok (.ifCond .lt 13, 3) := by decide +kernel
theorem dJ3_checkFromToIndex_8c36e_4 : decode cJ3_checkFromToIndex_8c36e 4 = .ok (.iload_n 0, 1) := by decide +kernel
theorem dJ3_checkFromToIndex_8c36e_5 : decode cJ3_checkFromToIndex_8c36e 5 = .ok (.iload_n 1, 1) := by decide +kernel
theorem dJ3_checkFromToIndex_8c36e_6 : decode cJ3_checkFromToIndex_8c36e 6 = .ok (.if_icmp .gt 8, 3) := by decide +kernel
theorem dJ3_checkFromToIndex_8c36e_9 : decode cJ3_checkFromToIndex_8c36e 9 = .ok (.iload_n 1, 1) := by decide +kernel
theorem dJ3_checkFromToIndex_8c36e_10 : decode cJ3_checkFromToIndex_8c36e 10 = .ok (.iload_n 2, 1) := by decide +kernel
theorem dJ3_checkFromToIndex_8c36e_11 : decode cJ3_checkFromToIndex_8c36e 11 = .ok (.if_icmp .le 11, 3) := by decide +kernel
theorem dJ3_checkFromToIndex_8c36e_14 : decode cJ3_checkFromToIndex_8c36e 14 = .ok (.aload_n 3, 1) := by decide +kernel
theorem dJ3_checkFromToIndex_8c36e_15 : decode cJ3_checkFromToIndex_8c36e 15 = .ok (.iload_n 0, 1) := by decide +kernel
theorem dJ3_checkFromToIndex_8c36e_16 : decode cJ3_checkFromToIndex_8c36e 16 = .ok (.iload_n 1, 1) := by decide +kernel
theorem dJ3_checkFromToIndex_8c36e_17 : decode cJ3_checkFromToIndex_8c36e 17 = .ok (.iload_n 2, 1) := by decide +kernel
theorem dJ3_checkFromToIndex_8c36e_18 : decode cJ3_checkFromToIndex_8c36e 18 = .ok (.invokestatic 99, 3) := by decide +kernel
theorem dJ3_checkFromToIndex_8c36e_21 : decode cJ3_checkFromToIndex_8c36e 21 = .ok (.athrow, 1) := by decide +kernel
theorem dJ3_checkFromToIndex_8c36e_22 : decode cJ3_checkFromToIndex_8c36e 22 = .ok (.iload_n 0, 1) := by decide +kernel
theorem dJ3_checkFromToIndex_8c36e_23 : decode cJ3_checkFromToIndex_8c36e 23 = .ok (.ireturn, 1) := by decide +kernel
theorem dL_law_0 : decode cL_law 0 = .ok (.new 7, 3) := by decide +kernel
theorem dL_law_3 : decode cL_law 3 = .ok (.dup, 1) := by decide +kernel
theorem dL_law_4 : decode cL_law 4 = .ok (.invokespecial 9, 3) := by decide +kernel
theorem dL_law_7 : decode cL_law 7 = .ok (.astore_n 1, 1) := by decide +kernel
theorem dL_law_8 : decode cL_law 8 = .ok (.new 10, 3) := by decide +kernel
theorem dL_law_11 : decode cL_law 11 = .ok (.dup, 1) := by decide +kernel
theorem dL_law_12 : decode cL_law 12 = .ok (.invokespecial 12, 3) := by decide +kernel
theorem dL_law_15 : decode cL_law 15 = .ok (.astore_n 2, 1) := by decide +kernel
theorem dL_law_16 : decode cL_law 16 = .ok (.iconst 0, 1) := by decide +kernel
theorem dL_law_17 : decode cL_law 17 = .ok (.istore_n 3, 1) := by decide +kernel
theorem dL_law_18 : decode cL_law 18 = .ok (.iload_n 3, 1) := by decide +kernel
theorem dL_law_19 : decode cL_law 19 = .ok (.aload_n 0, 1) := by decide +kernel
theorem dL_law_20 : decode cL_law 20 = .ok (.arraylength, 1) := by decide +kernel
theorem dL_law_21 : decode cL_law 21 = .ok (.bipush 6, 2) := by decide +kernel
theorem dL_law_23 : decode cL_law 23 = .ok (.isub, 1) := by decide +kernel
theorem dL_law_24 : decode cL_law 24 = .ok (.if_icmp .gt 1261, 3) := by decide +kernel
theorem dL_law_27 : decode cL_law 27 = .ok (.aload_n 0, 1) := by decide +kernel
theorem dL_law_28 : decode cL_law 28 = .ok (.iload_n 3, 1) := by decide +kernel
theorem dL_law_29 : decode cL_law 29 = .ok (.iaload, 1) := by decide +kernel
theorem dL_law_30 : decode cL_law 30 = .ok (.bipush 63, 2) := by decide +kernel
theorem dL_law_32 : decode cL_law 32 = .ok (.iand, 1) := by decide +kernel
theorem dL_law_33 : decode cL_law 33 = .ok (.tableswitch 1246 0 36 #[163, 186, 199, 232, 265, 288, 321, 344, 377, 420, 463, 486, 529, 562, 585, 618, 651, 674, 717, 750, 773, 796, 819, 862, 885, 918, 941, 984, 1048, 1072, 1105, 1128, 1141, 1154, 1197, 1210, 1223], 163) := by decide +kernel
theorem dL_law_196 : decode cL_law 196 = .ok (.aload_n 1, 1) := by decide +kernel
theorem dL_law_197 : decode cL_law 197 = .ok (.aload_n 0, 1) := by decide +kernel
theorem dL_law_198 : decode cL_law 198 = .ok (.iload_n 3, 1) := by decide +kernel
theorem dL_law_199 : decode cL_law 199 = .ok (.iconst 1, 1) := by decide +kernel
theorem dL_law_200 : decode cL_law 200 = .ok (.iadd, 1) := by decide +kernel
theorem dL_law_201 : decode cL_law 201 = .ok (.iaload, 1) := by decide +kernel
theorem dL_law_202 : decode cL_law 202 = .ok (.invokevirtual 13, 3) := by decide +kernel
theorem dL_law_205 : decode cL_law 205 = .ok (.aload_n 2, 1) := by decide +kernel
theorem dL_law_206 : decode cL_law 206 = .ok (.aload_n 0, 1) := by decide +kernel
theorem dL_law_207 : decode cL_law 207 = .ok (.iload_n 3, 1) := by decide +kernel
theorem dL_law_208 : decode cL_law 208 = .ok (.iconst 1, 1) := by decide +kernel
theorem dL_law_209 : decode cL_law 209 = .ok (.iadd, 1) := by decide +kernel
theorem dL_law_210 : decode cL_law 210 = .ok (.iaload, 1) := by decide +kernel
theorem dL_law_211 : decode cL_law 211 = .ok (.invokevirtual 17, 3) := by decide +kernel
theorem dL_law_214 : decode cL_law 214 = .ok (.if_icmp .eq 1065, 3) := by decide +kernel
theorem dL_law_217 : decode cL_law 217 = .ok (.iconst 0, 1) := by decide +kernel
theorem dL_law_218 : decode cL_law 218 = .ok (.ireturn, 1) := by decide +kernel
theorem dL_law_219 : decode cL_law 219 = .ok (.aload_n 1, 1) := by decide +kernel
theorem dL_law_220 : decode cL_law 220 = .ok (.invokevirtual 18, 3) := by decide +kernel
theorem dL_law_223 : decode cL_law 223 = .ok (.aload_n 2, 1) := by decide +kernel
theorem dL_law_224 : decode cL_law 224 = .ok (.invokevirtual 22, 3) := by decide +kernel
theorem dL_law_227 : decode cL_law 227 = .ok (.if_icmp .eq 1052, 3) := by decide +kernel
theorem dL_law_230 : decode cL_law 230 = .ok (.iconst 0, 1) := by decide +kernel
theorem dL_law_231 : decode cL_law 231 = .ok (.ireturn, 1) := by decide +kernel
theorem dL_law_232 : decode cL_law 232 = .ok (.aload_n 1, 1) := by decide +kernel
theorem dL_law_233 : decode cL_law 233 = .ok (.aload_n 0, 1) := by decide +kernel
theorem dL_law_234 : decode cL_law 234 = .ok (.iload_n 3, 1) := by decide +kernel
theorem dL_law_235 : decode cL_law 235 = .ok (.iconst 1, 1) := by decide +kernel
theorem dL_law_236 : decode cL_law 236 = .ok (.iadd, 1) := by decide +kernel
theorem dL_law_237 : decode cL_law 237 = .ok (.iaload, 1) := by decide +kernel
theorem dL_law_238 : decode cL_law 238 = .ok (.aload_n 0, 1) := by decide +kernel
theorem dL_law_239 : decode cL_law 239 = .ok (.iload_n 3, 1) := by decide +kernel
theorem dL_law_240 : decode cL_law 240 = .ok (.iconst 2, 1) := by decide +kernel
theorem dL_law_241 : decode cL_law 241 = .ok (.iadd, 1) := by decide +kernel
theorem dL_law_242 : decode cL_law 242 = .ok (.iaload, 1) := by decide +kernel
theorem dL_law_243 : decode cL_law 243 = .ok (.invokevirtual 23, 3) := by decide +kernel
theorem dL_law_246 : decode cL_law 246 = .ok (.aload_n 2, 1) := by decide +kernel
theorem dL_law_247 : decode cL_law 247 = .ok (.aload_n 0, 1) := by decide +kernel
theorem dL_law_248 : decode cL_law 248 = .ok (.iload_n 3, 1) := by decide +kernel
theorem dL_law_249 : decode cL_law 249 = .ok (.iconst 1, 1) := by decide +kernel
theorem dL_law_250 : decode cL_law 250 = .ok (.iadd, 1) := by decide +kernel
theorem dL_law_251 : decode cL_law 251 = .ok (.iaload, 1) := by decide +kernel
theorem dL_law_252 : decode cL_law 252 = .ok (.aload_n 0, 1) := by decide +kernel
theorem dL_law_253 : decode cL_law 253 = .ok (.iload_n 3, 1) := by decide +kernel
theorem dL_law_254 : decode cL_law 254 = .ok (.iconst 2, 1) := by decide +kernel
theorem dL_law_255 : decode cL_law 255 = .ok (.iadd, 1) := by decide +kernel
theorem dL_law_256 : decode cL_law 256 = .ok (.iaload, 1) := by decide +kernel
theorem dL_law_257 : decode cL_law 257 = .ok (.invokevirtual 27, 3) := by decide +kernel
theorem dL_law_260 : decode cL_law 260 = .ok (.if_icmp .eq 1019, 3) := by decide +kernel
theorem dL_law_263 : decode cL_law 263 = .ok (.iconst 0, 1) := by decide +kernel
theorem dL_law_264 : decode cL_law 264 = .ok (.ireturn, 1) := by decide +kernel
theorem dL_law_265 : decode cL_law 265 = .ok (.aload_n 1, 1) := by decide +kernel
theorem dL_law_266 : decode cL_law 266 = .ok (.aload_n 0, 1) := by decide +kernel
theorem dL_law_267 : decode cL_law 267 = .ok (.iload_n 3, 1) := by decide +kernel
theorem dL_law_268 : decode cL_law 268 = .ok (.iconst 1, 1) := by decide +kernel
theorem dL_law_269 : decode cL_law 269 = .ok (.iadd, 1) := by decide +kernel
theorem dL_law_270 : decode cL_law 270 = .ok (.iaload, 1) := by decide +kernel
theorem dL_law_271 : decode cL_law 271 = .ok (.aload_n 0, 1) := by decide +kernel
theorem dL_law_272 : decode cL_law 272 = .ok (.iload_n 3, 1) := by decide +kernel
theorem dL_law_273 : decode cL_law 273 = .ok (.iconst 2, 1) := by decide +kernel
theorem dL_law_274 : decode cL_law 274 = .ok (.iadd, 1) := by decide +kernel
theorem dL_law_275 : decode cL_law 275 = .ok (.iaload, 1) := by decide +kernel
theorem dL_law_276 : decode cL_law 276 = .ok (.invokevirtual 28, 3) := by decide +kernel
theorem dL_law_279 : decode cL_law 279 = .ok (.aload_n 2, 1) := by decide +kernel
theorem dL_law_280 : decode cL_law 280 = .ok (.aload_n 0, 1) := by decide +kernel
theorem dL_law_281 : decode cL_law 281 = .ok (.iload_n 3, 1) := by decide +kernel
theorem dL_law_282 : decode cL_law 282 = .ok (.iconst 1, 1) := by decide +kernel
theorem dL_law_283 : decode cL_law 283 = .ok (.iadd, 1) := by decide +kernel
theorem dL_law_284 : decode cL_law 284 = .ok (.iaload, 1) := by decide +kernel
theorem dL_law_285 : decode cL_law 285 = .ok (.aload_n 0, 1) := by decide +kernel
theorem dL_law_286 : decode cL_law 286 = .ok (.iload_n 3, 1) := by decide +kernel
theorem dL_law_287 : decode cL_law 287 = .ok (.iconst 2, 1) := by decide +kernel
theorem dL_law_288 : decode cL_law 288 = .ok (.iadd, 1) := by decide +kernel
theorem dL_law_289 : decode cL_law 289 = .ok (.iaload, 1) := by decide +kernel
theorem dL_law_290 : decode cL_law 290 = .ok (.invokevirtual 31, 3) := by decide +kernel
theorem dL_law_293 : decode cL_law 293 = .ok (.if_icmp .eq 986, 3) := by decide +kernel
theorem dL_law_296 : decode cL_law 296 = .ok (.iconst 0, 1) := by decide +kernel
theorem dL_law_297 : decode cL_law 297 = .ok (.ireturn, 1) := by decide +kernel
theorem dL_law_298 : decode cL_law 298 = .ok (.aload_n 1, 1) := by decide +kernel
theorem dL_law_299 : decode cL_law 299 = .ok (.aload_n 0, 1) := by decide +kernel
theorem dL_law_300 : decode cL_law 300 = .ok (.iload_n 3, 1) := by decide +kernel
theorem dL_law_301 : decode cL_law 301 = .ok (.iconst 1, 1) := by decide +kernel
theorem dL_law_302 : decode cL_law 302 = .ok (.iadd, 1) := by decide +kernel
theorem dL_law_303 : decode cL_law 303 = .ok (.iaload, 1) := by decide +kernel
theorem dL_law_304 : decode cL_law 304 = .ok (.invokevirtual 32, 3) := by decide +kernel
theorem dL_law_307 : decode cL_law 307 = .ok (.aload_n 2, 1) := by decide +kernel
theorem dL_law_308 : decode cL_law 308 = .ok (.aload_n 0, 1) := by decide +kernel
theorem dL_law_309 : decode cL_law 309 = .ok (.iload_n 3, 1) := by decide +kernel
theorem dL_law_310 : decode cL_law 310 = .ok (.iconst 1, 1) := by decide +kernel
theorem dL_law_311 : decode cL_law 311 = .ok (.iadd, 1) := by decide +kernel
theorem dL_law_312 : decode cL_law 312 = .ok (.iaload, 1) := by decide +kernel
theorem dL_law_313 : decode cL_law 313 = .ok (.invokevirtual 35, 3) := by decide +kernel
theorem dL_law_316 : decode cL_law 316 = .ok (.if_icmp .eq 963, 3) := by decide +kernel
theorem dL_law_319 : decode cL_law 319 = .ok (.iconst 0, 1) := by decide +kernel
theorem dL_law_320 : decode cL_law 320 = .ok (.ireturn, 1) := by decide +kernel
theorem dL_law_321 : decode cL_law 321 = .ok (.aload_n 1, 1) := by decide +kernel
theorem dL_law_322 : decode cL_law 322 = .ok (.aload_n 0, 1) := by decide +kernel
theorem dL_law_323 : decode cL_law 323 = .ok (.iload_n 3, 1) := by decide +kernel
theorem dL_law_324 : decode cL_law 324 = .ok (.iconst 1, 1) := by decide +kernel
theorem dL_law_325 : decode cL_law 325 = .ok (.iadd, 1) := by decide +kernel
theorem dL_law_326 : decode cL_law 326 = .ok (.iaload, 1) := by decide +kernel
theorem dL_law_327 : decode cL_law 327 = .ok (.aload_n 0, 1) := by decide +kernel
theorem dL_law_328 : decode cL_law 328 = .ok (.iload_n 3, 1) := by decide +kernel
theorem dL_law_329 : decode cL_law 329 = .ok (.iconst 2, 1) := by decide +kernel
theorem dL_law_330 : decode cL_law 330 = .ok (.iadd, 1) := by decide +kernel
theorem dL_law_331 : decode cL_law 331 = .ok (.iaload, 1) := by decide +kernel
theorem dL_law_332 : decode cL_law 332 = .ok (.invokevirtual 36, 3) := by decide +kernel
theorem dL_law_335 : decode cL_law 335 = .ok (.aload_n 2, 1) := by decide +kernel
theorem dL_law_336 : decode cL_law 336 = .ok (.aload_n 0, 1) := by decide +kernel
theorem dL_law_337 : decode cL_law 337 = .ok (.iload_n 3, 1) := by decide +kernel
theorem dL_law_338 : decode cL_law 338 = .ok (.iconst 1, 1) := by decide +kernel
theorem dL_law_339 : decode cL_law 339 = .ok (.iadd, 1) := by decide +kernel
theorem dL_law_340 : decode cL_law 340 = .ok (.iaload, 1) := by decide +kernel
theorem dL_law_341 : decode cL_law 341 = .ok (.aload_n 0, 1) := by decide +kernel
theorem dL_law_342 : decode cL_law 342 = .ok (.iload_n 3, 1) := by decide +kernel
theorem dL_law_343 : decode cL_law 343 = .ok (.iconst 2, 1) := by decide +kernel
theorem dL_law_344 : decode cL_law 344 = .ok (.iadd, 1) := by decide +kernel
theorem dL_law_345 : decode cL_law 345 = .ok (.iaload, 1) := by decide +kernel
theorem dL_law_346 : decode cL_law 346 = .ok (.invokevirtual 39, 3) := by decide +kernel
theorem dL_law_349 : decode cL_law 349 = .ok (.if_icmp .eq 930, 3) := by decide +kernel
theorem dL_law_352 : decode cL_law 352 = .ok (.iconst 0, 1) := by decide +kernel
theorem dL_law_353 : decode cL_law 353 = .ok (.ireturn, 1) := by decide +kernel
theorem dL_law_354 : decode cL_law 354 = .ok (.aload_n 1, 1) := by decide +kernel
theorem dL_law_355 : decode cL_law 355 = .ok (.aload_n 0, 1) := by decide +kernel
theorem dL_law_356 : decode cL_law 356 = .ok (.iload_n 3, 1) := by decide +kernel
theorem dL_law_357 : decode cL_law 357 = .ok (.iconst 1, 1) := by decide +kernel
theorem dL_law_358 : decode cL_law 358 = .ok (.iadd, 1) := by decide +kernel
theorem dL_law_359 : decode cL_law 359 = .ok (.iaload, 1) := by decide +kernel
theorem dL_law_360 : decode cL_law 360 = .ok (.invokevirtual 40, 3) := by decide +kernel
theorem dL_law_363 : decode cL_law 363 = .ok (.aload_n 2, 1) := by decide +kernel
theorem dL_law_364 : decode cL_law 364 = .ok (.aload_n 0, 1) := by decide +kernel
theorem dL_law_365 : decode cL_law 365 = .ok (.iload_n 3, 1) := by decide +kernel
theorem dL_law_366 : decode cL_law 366 = .ok (.iconst 1, 1) := by decide +kernel
theorem dL_law_367 : decode cL_law 367 = .ok (.iadd, 1) := by decide +kernel
theorem dL_law_368 : decode cL_law 368 = .ok (.iaload, 1) := by decide +kernel
theorem dL_law_369 : decode cL_law 369 = .ok (.invokevirtual 43, 3) := by decide +kernel
theorem dL_law_372 : decode cL_law 372 = .ok (.if_icmp .eq 907, 3) := by decide +kernel
theorem dL_law_375 : decode cL_law 375 = .ok (.iconst 0, 1) := by decide +kernel
theorem dL_law_376 : decode cL_law 376 = .ok (.ireturn, 1) := by decide +kernel
theorem dL_law_377 : decode cL_law 377 = .ok (.aload_n 1, 1) := by decide +kernel
theorem dL_law_378 : decode cL_law 378 = .ok (.aload_n 0, 1) := by decide +kernel
theorem dL_law_379 : decode cL_law 379 = .ok (.iload_n 3, 1) := by decide +kernel
theorem dL_law_380 : decode cL_law 380 = .ok (.iconst 1, 1) := by decide +kernel
theorem dL_law_381 : decode cL_law 381 = .ok (.iadd, 1) := by decide +kernel
theorem dL_law_382 : decode cL_law 382 = .ok (.iaload, 1) := by decide +kernel
theorem dL_law_383 : decode cL_law 383 = .ok (.aload_n 0, 1) := by decide +kernel
theorem dL_law_384 : decode cL_law 384 = .ok (.iload_n 3, 1) := by decide +kernel
theorem dL_law_385 : decode cL_law 385 = .ok (.iconst 2, 1) := by decide +kernel
theorem dL_law_386 : decode cL_law 386 = .ok (.iadd, 1) := by decide +kernel
theorem dL_law_387 : decode cL_law 387 = .ok (.iaload, 1) := by decide +kernel
theorem dL_law_388 : decode cL_law 388 = .ok (.invokevirtual 44, 3) := by decide +kernel
theorem dL_law_391 : decode cL_law 391 = .ok (.aload_n 2, 1) := by decide +kernel
theorem dL_law_392 : decode cL_law 392 = .ok (.aload_n 0, 1) := by decide +kernel
theorem dL_law_393 : decode cL_law 393 = .ok (.iload_n 3, 1) := by decide +kernel
theorem dL_law_394 : decode cL_law 394 = .ok (.iconst 1, 1) := by decide +kernel
theorem dL_law_395 : decode cL_law 395 = .ok (.iadd, 1) := by decide +kernel
theorem dL_law_396 : decode cL_law 396 = .ok (.iaload, 1) := by decide +kernel
theorem dL_law_397 : decode cL_law 397 = .ok (.aload_n 0, 1) := by decide +kernel
theorem dL_law_398 : decode cL_law 398 = .ok (.iload_n 3, 1) := by decide +kernel
theorem dL_law_399 : decode cL_law 399 = .ok (.iconst 2, 1) := by decide +kernel
theorem dL_law_400 : decode cL_law 400 = .ok (.iadd, 1) := by decide +kernel
theorem dL_law_401 : decode cL_law 401 = .ok (.iaload, 1) := by decide +kernel
theorem dL_law_402 : decode cL_law 402 = .ok (.invokevirtual 47, 3) := by decide +kernel
theorem dL_law_405 : decode cL_law 405 = .ok (.if_icmp .eq 874, 3) := by decide +kernel
theorem dL_law_408 : decode cL_law 408 = .ok (.iconst 0, 1) := by decide +kernel
theorem dL_law_409 : decode cL_law 409 = .ok (.ireturn, 1) := by decide +kernel
theorem dL_law_410 : decode cL_law 410 = .ok (.aload_n 1, 1) := by decide +kernel
theorem dL_law_411 : decode cL_law 411 = .ok (.aload_n 0, 1) := by decide +kernel
theorem dL_law_412 : decode cL_law 412 = .ok (.iload_n 3, 1) := by decide +kernel
theorem dL_law_413 : decode cL_law 413 = .ok (.iconst 1, 1) := by decide +kernel
theorem dL_law_414 : decode cL_law 414 = .ok (.iadd, 1) := by decide +kernel
theorem dL_law_415 : decode cL_law 415 = .ok (.iaload, 1) := by decide +kernel
theorem dL_law_416 : decode cL_law 416 = .ok (.aload_n 0, 1) := by decide +kernel
theorem dL_law_417 : decode cL_law 417 = .ok (.iload_n 3, 1) := by decide +kernel
theorem dL_law_418 : decode cL_law 418 = .ok (.iconst 2, 1) := by decide +kernel
theorem dL_law_419 : decode cL_law 419 = .ok (.iadd, 1) := by decide +kernel
theorem dL_law_420 : decode cL_law 420 = .ok (.iaload, 1) := by decide +kernel
theorem dL_law_421 : decode cL_law 421 = .ok (.aload_n 0, 1) := by decide +kernel
theorem dL_law_422 : decode cL_law 422 = .ok (.iload_n 3, 1) := by decide +kernel
theorem dL_law_423 : decode cL_law 423 = .ok (.iconst 3, 1) := by decide +kernel
theorem dL_law_424 : decode cL_law 424 = .ok (.iadd, 1) := by decide +kernel
theorem dL_law_425 : decode cL_law 425 = .ok (.iaload, 1) := by decide +kernel
theorem dL_law_426 : decode cL_law 426 = .ok (.invokevirtual 48, 3) := by decide +kernel
theorem dL_law_429 : decode cL_law 429 = .ok (.aload_n 2, 1) := by decide +kernel
theorem dL_law_430 : decode cL_law 430 = .ok (.aload_n 0, 1) := by decide +kernel
theorem dL_law_431 : decode cL_law 431 = .ok (.iload_n 3, 1) := by decide +kernel
theorem dL_law_432 : decode cL_law 432 = .ok (.iconst 1, 1) := by decide +kernel
theorem dL_law_433 : decode cL_law 433 = .ok (.iadd, 1) := by decide +kernel
theorem dL_law_434 : decode cL_law 434 = .ok (.iaload, 1) := by decide +kernel
theorem dL_law_435 : decode cL_law 435 = .ok (.aload_n 0, 1) := by decide +kernel
theorem dL_law_436 : decode cL_law 436 = .ok (.iload_n 3, 1) := by decide +kernel
theorem dL_law_437 : decode cL_law 437 = .ok (.iconst 2, 1) := by decide +kernel
theorem dL_law_438 : decode cL_law 438 = .ok (.iadd, 1) := by decide +kernel
theorem dL_law_439 : decode cL_law 439 = .ok (.iaload, 1) := by decide +kernel
theorem dL_law_440 : decode cL_law 440 = .ok (.aload_n 0, 1) := by decide +kernel
theorem dL_law_441 : decode cL_law 441 = .ok (.iload_n 3, 1) := by decide +kernel
theorem dL_law_442 : decode cL_law 442 = .ok (.iconst 3, 1) := by decide +kernel
theorem dL_law_443 : decode cL_law 443 = .ok (.iadd, 1) := by decide +kernel
theorem dL_law_444 : decode cL_law 444 = .ok (.iaload, 1) := by decide +kernel
theorem dL_law_445 : decode cL_law 445 = .ok (.invokevirtual 52, 3) := by decide +kernel
theorem dL_law_448 : decode cL_law 448 = .ok (.if_icmp .eq 831, 3) := by decide +kernel
theorem dL_law_451 : decode cL_law 451 = .ok (.iconst 0, 1) := by decide +kernel
theorem dL_law_452 : decode cL_law 452 = .ok (.ireturn, 1) := by decide +kernel
theorem dL_law_453 : decode cL_law 453 = .ok (.aload_n 1, 1) := by decide +kernel
theorem dL_law_454 : decode cL_law 454 = .ok (.aload_n 0, 1) := by decide +kernel
theorem dL_law_455 : decode cL_law 455 = .ok (.iload_n 3, 1) := by decide +kernel
theorem dL_law_456 : decode cL_law 456 = .ok (.iconst 1, 1) := by decide +kernel
theorem dL_law_457 : decode cL_law 457 = .ok (.iadd, 1) := by decide +kernel
theorem dL_law_458 : decode cL_law 458 = .ok (.iaload, 1) := by decide +kernel
theorem dL_law_459 : decode cL_law 459 = .ok (.aload_n 0, 1) := by decide +kernel
theorem dL_law_460 : decode cL_law 460 = .ok (.iload_n 3, 1) := by decide +kernel
theorem dL_law_461 : decode cL_law 461 = .ok (.iconst 2, 1) := by decide +kernel
theorem dL_law_462 : decode cL_law 462 = .ok (.iadd, 1) := by decide +kernel
theorem dL_law_463 : decode cL_law 463 = .ok (.iaload, 1) := by decide +kernel
theorem dL_law_464 : decode cL_law 464 = .ok (.aload_n 0, 1) := by decide +kernel
theorem dL_law_465 : decode cL_law 465 = .ok (.iload_n 3, 1) := by decide +kernel
theorem dL_law_466 : decode cL_law 466 = .ok (.iconst 3, 1) := by decide +kernel
theorem dL_law_467 : decode cL_law 467 = .ok (.iadd, 1) := by decide +kernel
theorem dL_law_468 : decode cL_law 468 = .ok (.iaload, 1) := by decide +kernel
theorem dL_law_469 : decode cL_law 469 = .ok (.invokevirtual 53, 3) := by decide +kernel
theorem dL_law_472 : decode cL_law 472 = .ok (.aload_n 2, 1) := by decide +kernel
theorem dL_law_473 : decode cL_law 473 = .ok (.aload_n 0, 1) := by decide +kernel
theorem dL_law_474 : decode cL_law 474 = .ok (.iload_n 3, 1) := by decide +kernel
theorem dL_law_475 : decode cL_law 475 = .ok (.iconst 1, 1) := by decide +kernel
theorem dL_law_476 : decode cL_law 476 = .ok (.iadd, 1) := by decide +kernel
theorem dL_law_477 : decode cL_law 477 = .ok (.iaload, 1) := by decide +kernel
theorem dL_law_478 : decode cL_law 478 = .ok (.aload_n 0, 1) := by decide +kernel
theorem dL_law_479 : decode cL_law 479 = .ok (.iload_n 3, 1) := by decide +kernel
theorem dL_law_480 : decode cL_law 480 = .ok (.iconst 2, 1) := by decide +kernel
theorem dL_law_481 : decode cL_law 481 = .ok (.iadd, 1) := by decide +kernel
theorem dL_law_482 : decode cL_law 482 = .ok (.iaload, 1) := by decide +kernel
theorem dL_law_483 : decode cL_law 483 = .ok (.aload_n 0, 1) := by decide +kernel
theorem dL_law_484 : decode cL_law 484 = .ok (.iload_n 3, 1) := by decide +kernel
theorem dL_law_485 : decode cL_law 485 = .ok (.iconst 3, 1) := by decide +kernel
theorem dL_law_486 : decode cL_law 486 = .ok (.iadd, 1) := by decide +kernel
theorem dL_law_487 : decode cL_law 487 = .ok (.iaload, 1) := by decide +kernel
theorem dL_law_488 : decode cL_law 488 = .ok (.invokevirtual 56, 3) := by decide +kernel
theorem dL_law_491 : decode cL_law 491 = .ok (.if_icmp .eq 788, 3) := by decide +kernel
theorem dL_law_494 : decode cL_law 494 = .ok (.iconst 0, 1) := by decide +kernel
theorem dL_law_495 : decode cL_law 495 = .ok (.ireturn, 1) := by decide +kernel
theorem dL_law_496 : decode cL_law 496 = .ok (.aload_n 1, 1) := by decide +kernel
theorem dL_law_497 : decode cL_law 497 = .ok (.aload_n 0, 1) := by decide +kernel
theorem dL_law_498 : decode cL_law 498 = .ok (.iload_n 3, 1) := by decide +kernel
theorem dL_law_499 : decode cL_law 499 = .ok (.iconst 1, 1) := by decide +kernel
theorem dL_law_500 : decode cL_law 500 = .ok (.iadd, 1) := by decide +kernel
theorem dL_law_501 : decode cL_law 501 = .ok (.iaload, 1) := by decide +kernel
theorem dL_law_502 : decode cL_law 502 = .ok (.invokevirtual 57, 3) := by decide +kernel
theorem dL_law_505 : decode cL_law 505 = .ok (.aload_n 2, 1) := by decide +kernel
theorem dL_law_506 : decode cL_law 506 = .ok (.aload_n 0, 1) := by decide +kernel
theorem dL_law_507 : decode cL_law 507 = .ok (.iload_n 3, 1) := by decide +kernel
theorem dL_law_508 : decode cL_law 508 = .ok (.iconst 1, 1) := by decide +kernel
theorem dL_law_509 : decode cL_law 509 = .ok (.iadd, 1) := by decide +kernel
theorem dL_law_510 : decode cL_law 510 = .ok (.iaload, 1) := by decide +kernel
theorem dL_law_511 : decode cL_law 511 = .ok (.invokevirtual 60, 3) := by decide +kernel
theorem dL_law_514 : decode cL_law 514 = .ok (.if_icmp .eq 765, 3) := by decide +kernel
theorem dL_law_517 : decode cL_law 517 = .ok (.iconst 0, 1) := by decide +kernel
theorem dL_law_518 : decode cL_law 518 = .ok (.ireturn, 1) := by decide +kernel
theorem dL_law_519 : decode cL_law 519 = .ok (.aload_n 1, 1) := by decide +kernel
theorem dL_law_520 : decode cL_law 520 = .ok (.aload_n 0, 1) := by decide +kernel
theorem dL_law_521 : decode cL_law 521 = .ok (.iload_n 3, 1) := by decide +kernel
theorem dL_law_522 : decode cL_law 522 = .ok (.iconst 1, 1) := by decide +kernel
theorem dL_law_523 : decode cL_law 523 = .ok (.iadd, 1) := by decide +kernel
theorem dL_law_524 : decode cL_law 524 = .ok (.iaload, 1) := by decide +kernel
theorem dL_law_525 : decode cL_law 525 = .ok (.aload_n 0, 1) := by decide +kernel
theorem dL_law_526 : decode cL_law 526 = .ok (.iload_n 3, 1) := by decide +kernel
theorem dL_law_527 : decode cL_law 527 = .ok (.iconst 2, 1) := by decide +kernel
theorem dL_law_528 : decode cL_law 528 = .ok (.iadd, 1) := by decide +kernel
theorem dL_law_529 : decode cL_law 529 = .ok (.iaload, 1) := by decide +kernel
theorem dL_law_530 : decode cL_law 530 = .ok (.aload_n 0, 1) := by decide +kernel
theorem dL_law_531 : decode cL_law 531 = .ok (.iload_n 3, 1) := by decide +kernel
theorem dL_law_532 : decode cL_law 532 = .ok (.iconst 3, 1) := by decide +kernel
theorem dL_law_533 : decode cL_law 533 = .ok (.iadd, 1) := by decide +kernel
theorem dL_law_534 : decode cL_law 534 = .ok (.iaload, 1) := by decide +kernel
theorem dL_law_535 : decode cL_law 535 = .ok (.invokevirtual 61, 3) := by decide +kernel
theorem dL_law_538 : decode cL_law 538 = .ok (.aload_n 2, 1) := by decide +kernel
theorem dL_law_539 : decode cL_law 539 = .ok (.aload_n 0, 1) := by decide +kernel
theorem dL_law_540 : decode cL_law 540 = .ok (.iload_n 3, 1) := by decide +kernel
theorem dL_law_541 : decode cL_law 541 = .ok (.iconst 1, 1) := by decide +kernel
theorem dL_law_542 : decode cL_law 542 = .ok (.iadd, 1) := by decide +kernel
theorem dL_law_543 : decode cL_law 543 = .ok (.iaload, 1) := by decide +kernel
theorem dL_law_544 : decode cL_law 544 = .ok (.aload_n 0, 1) := by decide +kernel
theorem dL_law_545 : decode cL_law 545 = .ok (.iload_n 3, 1) := by decide +kernel
theorem dL_law_546 : decode cL_law 546 = .ok (.iconst 2, 1) := by decide +kernel
theorem dL_law_547 : decode cL_law 547 = .ok (.iadd, 1) := by decide +kernel
theorem dL_law_548 : decode cL_law 548 = .ok (.iaload, 1) := by decide +kernel
theorem dL_law_549 : decode cL_law 549 = .ok (.aload_n 0, 1) := by decide +kernel
theorem dL_law_550 : decode cL_law 550 = .ok (.iload_n 3, 1) := by decide +kernel
theorem dL_law_551 : decode cL_law 551 = .ok (.iconst 3, 1) := by decide +kernel
theorem dL_law_552 : decode cL_law 552 = .ok (.iadd, 1) := by decide +kernel
theorem dL_law_553 : decode cL_law 553 = .ok (.iaload, 1) := by decide +kernel
theorem dL_law_554 : decode cL_law 554 = .ok (.invokevirtual 64, 3) := by decide +kernel
theorem dL_law_557 : decode cL_law 557 = .ok (.if_icmp .eq 722, 3) := by decide +kernel
theorem dL_law_560 : decode cL_law 560 = .ok (.iconst 0, 1) := by decide +kernel
theorem dL_law_561 : decode cL_law 561 = .ok (.ireturn, 1) := by decide +kernel
theorem dL_law_562 : decode cL_law 562 = .ok (.aload_n 1, 1) := by decide +kernel
theorem dL_law_563 : decode cL_law 563 = .ok (.aload_n 0, 1) := by decide +kernel
theorem dL_law_564 : decode cL_law 564 = .ok (.iload_n 3, 1) := by decide +kernel
theorem dL_law_565 : decode cL_law 565 = .ok (.iconst 1, 1) := by decide +kernel
theorem dL_law_566 : decode cL_law 566 = .ok (.iadd, 1) := by decide +kernel
theorem dL_law_567 : decode cL_law 567 = .ok (.iaload, 1) := by decide +kernel
theorem dL_law_568 : decode cL_law 568 = .ok (.aload_n 0, 1) := by decide +kernel
theorem dL_law_569 : decode cL_law 569 = .ok (.iload_n 3, 1) := by decide +kernel
theorem dL_law_570 : decode cL_law 570 = .ok (.iconst 2, 1) := by decide +kernel
theorem dL_law_571 : decode cL_law 571 = .ok (.iadd, 1) := by decide +kernel
theorem dL_law_572 : decode cL_law 572 = .ok (.iaload, 1) := by decide +kernel
theorem dL_law_573 : decode cL_law 573 = .ok (.invokevirtual 65, 3) := by decide +kernel
theorem dL_law_576 : decode cL_law 576 = .ok (.aload_n 2, 1) := by decide +kernel
theorem dL_law_577 : decode cL_law 577 = .ok (.aload_n 0, 1) := by decide +kernel
theorem dL_law_578 : decode cL_law 578 = .ok (.iload_n 3, 1) := by decide +kernel
theorem dL_law_579 : decode cL_law 579 = .ok (.iconst 1, 1) := by decide +kernel
theorem dL_law_580 : decode cL_law 580 = .ok (.iadd, 1) := by decide +kernel
theorem dL_law_581 : decode cL_law 581 = .ok (.iaload, 1) := by decide +kernel
theorem dL_law_582 : decode cL_law 582 = .ok (.aload_n 0, 1) := by decide +kernel
theorem dL_law_583 : decode cL_law 583 = .ok (.iload_n 3, 1) := by decide +kernel
theorem dL_law_584 : decode cL_law 584 = .ok (.iconst 2, 1) := by decide +kernel
theorem dL_law_585 : decode cL_law 585 = .ok (.iadd, 1) := by decide +kernel
theorem dL_law_586 : decode cL_law 586 = .ok (.iaload, 1) := by decide +kernel
theorem dL_law_587 : decode cL_law 587 = .ok (.invokevirtual 68, 3) := by decide +kernel
theorem dL_law_590 : decode cL_law 590 = .ok (.if_icmp .eq 689, 3) := by decide +kernel
theorem dL_law_593 : decode cL_law 593 = .ok (.iconst 0, 1) := by decide +kernel
theorem dL_law_594 : decode cL_law 594 = .ok (.ireturn, 1) := by decide +kernel
theorem dL_law_595 : decode cL_law 595 = .ok (.aload_n 1, 1) := by decide +kernel
theorem dL_law_596 : decode cL_law 596 = .ok (.aload_n 0, 1) := by decide +kernel
theorem dL_law_597 : decode cL_law 597 = .ok (.iload_n 3, 1) := by decide +kernel
theorem dL_law_598 : decode cL_law 598 = .ok (.iconst 1, 1) := by decide +kernel
theorem dL_law_599 : decode cL_law 599 = .ok (.iadd, 1) := by decide +kernel
theorem dL_law_600 : decode cL_law 600 = .ok (.iaload, 1) := by decide +kernel
theorem dL_law_601 : decode cL_law 601 = .ok (.invokevirtual 69, 3) := by decide +kernel
theorem dL_law_604 : decode cL_law 604 = .ok (.aload_n 2, 1) := by decide +kernel
theorem dL_law_605 : decode cL_law 605 = .ok (.aload_n 0, 1) := by decide +kernel
theorem dL_law_606 : decode cL_law 606 = .ok (.iload_n 3, 1) := by decide +kernel
theorem dL_law_607 : decode cL_law 607 = .ok (.iconst 1, 1) := by decide +kernel
theorem dL_law_608 : decode cL_law 608 = .ok (.iadd, 1) := by decide +kernel
theorem dL_law_609 : decode cL_law 609 = .ok (.iaload, 1) := by decide +kernel
theorem dL_law_610 : decode cL_law 610 = .ok (.invokevirtual 72, 3) := by decide +kernel
theorem dL_law_613 : decode cL_law 613 = .ok (.if_icmp .eq 666, 3) := by decide +kernel
theorem dL_law_616 : decode cL_law 616 = .ok (.iconst 0, 1) := by decide +kernel
theorem dL_law_617 : decode cL_law 617 = .ok (.ireturn, 1) := by decide +kernel
theorem dL_law_618 : decode cL_law 618 = .ok (.aload_n 1, 1) := by decide +kernel
theorem dL_law_619 : decode cL_law 619 = .ok (.aload_n 0, 1) := by decide +kernel
theorem dL_law_620 : decode cL_law 620 = .ok (.iload_n 3, 1) := by decide +kernel
theorem dL_law_621 : decode cL_law 621 = .ok (.iconst 1, 1) := by decide +kernel
theorem dL_law_622 : decode cL_law 622 = .ok (.iadd, 1) := by decide +kernel
theorem dL_law_623 : decode cL_law 623 = .ok (.iaload, 1) := by decide +kernel
theorem dL_law_624 : decode cL_law 624 = .ok (.aload_n 0, 1) := by decide +kernel
theorem dL_law_625 : decode cL_law 625 = .ok (.iload_n 3, 1) := by decide +kernel
theorem dL_law_626 : decode cL_law 626 = .ok (.iconst 2, 1) := by decide +kernel
theorem dL_law_627 : decode cL_law 627 = .ok (.iadd, 1) := by decide +kernel
theorem dL_law_628 : decode cL_law 628 = .ok (.iaload, 1) := by decide +kernel
theorem dL_law_629 : decode cL_law 629 = .ok (.invokevirtual 73, 3) := by decide +kernel
theorem dL_law_632 : decode cL_law 632 = .ok (.aload_n 2, 1) := by decide +kernel
theorem dL_law_633 : decode cL_law 633 = .ok (.aload_n 0, 1) := by decide +kernel
theorem dL_law_634 : decode cL_law 634 = .ok (.iload_n 3, 1) := by decide +kernel
theorem dL_law_635 : decode cL_law 635 = .ok (.iconst 1, 1) := by decide +kernel
theorem dL_law_636 : decode cL_law 636 = .ok (.iadd, 1) := by decide +kernel
theorem dL_law_637 : decode cL_law 637 = .ok (.iaload, 1) := by decide +kernel
theorem dL_law_638 : decode cL_law 638 = .ok (.aload_n 0, 1) := by decide +kernel
theorem dL_law_639 : decode cL_law 639 = .ok (.iload_n 3, 1) := by decide +kernel
theorem dL_law_640 : decode cL_law 640 = .ok (.iconst 2, 1) := by decide +kernel
theorem dL_law_641 : decode cL_law 641 = .ok (.iadd, 1) := by decide +kernel
theorem dL_law_642 : decode cL_law 642 = .ok (.iaload, 1) := by decide +kernel
theorem dL_law_643 : decode cL_law 643 = .ok (.invokevirtual 76, 3) := by decide +kernel
theorem dL_law_646 : decode cL_law 646 = .ok (.if_icmp .eq 633, 3) := by decide +kernel
theorem dL_law_649 : decode cL_law 649 = .ok (.iconst 0, 1) := by decide +kernel
theorem dL_law_650 : decode cL_law 650 = .ok (.ireturn, 1) := by decide +kernel
theorem dL_law_651 : decode cL_law 651 = .ok (.aload_n 1, 1) := by decide +kernel
theorem dL_law_652 : decode cL_law 652 = .ok (.aload_n 0, 1) := by decide +kernel
theorem dL_law_653 : decode cL_law 653 = .ok (.iload_n 3, 1) := by decide +kernel
theorem dL_law_654 : decode cL_law 654 = .ok (.iconst 1, 1) := by decide +kernel
theorem dL_law_655 : decode cL_law 655 = .ok (.iadd, 1) := by decide +kernel
theorem dL_law_656 : decode cL_law 656 = .ok (.iaload, 1) := by decide +kernel
theorem dL_law_657 : decode cL_law 657 = .ok (.aload_n 0, 1) := by decide +kernel
theorem dL_law_658 : decode cL_law 658 = .ok (.iload_n 3, 1) := by decide +kernel
theorem dL_law_659 : decode cL_law 659 = .ok (.iconst 2, 1) := by decide +kernel
theorem dL_law_660 : decode cL_law 660 = .ok (.iadd, 1) := by decide +kernel
theorem dL_law_661 : decode cL_law 661 = .ok (.iaload, 1) := by decide +kernel
theorem dL_law_662 : decode cL_law 662 = .ok (.invokevirtual 77, 3) := by decide +kernel
theorem dL_law_665 : decode cL_law 665 = .ok (.aload_n 2, 1) := by decide +kernel
theorem dL_law_666 : decode cL_law 666 = .ok (.aload_n 0, 1) := by decide +kernel
theorem dL_law_667 : decode cL_law 667 = .ok (.iload_n 3, 1) := by decide +kernel
theorem dL_law_668 : decode cL_law 668 = .ok (.iconst 1, 1) := by decide +kernel
theorem dL_law_669 : decode cL_law 669 = .ok (.iadd, 1) := by decide +kernel
theorem dL_law_670 : decode cL_law 670 = .ok (.iaload, 1) := by decide +kernel
theorem dL_law_671 : decode cL_law 671 = .ok (.aload_n 0, 1) := by decide +kernel
theorem dL_law_672 : decode cL_law 672 = .ok (.iload_n 3, 1) := by decide +kernel
theorem dL_law_673 : decode cL_law 673 = .ok (.iconst 2, 1) := by decide +kernel
theorem dL_law_674 : decode cL_law 674 = .ok (.iadd, 1) := by decide +kernel
theorem dL_law_675 : decode cL_law 675 = .ok (.iaload, 1) := by decide +kernel
theorem dL_law_676 : decode cL_law 676 = .ok (.invokevirtual 80, 3) := by decide +kernel
theorem dL_law_679 : decode cL_law 679 = .ok (.if_icmp .eq 600, 3) := by decide +kernel
theorem dL_law_682 : decode cL_law 682 = .ok (.iconst 0, 1) := by decide +kernel
theorem dL_law_683 : decode cL_law 683 = .ok (.ireturn, 1) := by decide +kernel
theorem dL_law_684 : decode cL_law 684 = .ok (.aload_n 1, 1) := by decide +kernel
theorem dL_law_685 : decode cL_law 685 = .ok (.aload_n 0, 1) := by decide +kernel
theorem dL_law_686 : decode cL_law 686 = .ok (.iload_n 3, 1) := by decide +kernel
theorem dL_law_687 : decode cL_law 687 = .ok (.iconst 1, 1) := by decide +kernel
theorem dL_law_688 : decode cL_law 688 = .ok (.iadd, 1) := by decide +kernel
theorem dL_law_689 : decode cL_law 689 = .ok (.iaload, 1) := by decide +kernel
theorem dL_law_690 : decode cL_law 690 = .ok (.invokevirtual 81, 3) := by decide +kernel
theorem dL_law_693 : decode cL_law 693 = .ok (.aload_n 2, 1) := by decide +kernel
theorem dL_law_694 : decode cL_law 694 = .ok (.aload_n 0, 1) := by decide +kernel
theorem dL_law_695 : decode cL_law 695 = .ok (.iload_n 3, 1) := by decide +kernel
theorem dL_law_696 : decode cL_law 696 = .ok (.iconst 1, 1) := by decide +kernel
theorem dL_law_697 : decode cL_law 697 = .ok (.iadd, 1) := by decide +kernel
theorem dL_law_698 : decode cL_law 698 = .ok (.iaload, 1) := by decide +kernel
theorem dL_law_699 : decode cL_law 699 = .ok (.invokevirtual 84, 3) := by decide +kernel
theorem dL_law_702 : decode cL_law 702 = .ok (.if_icmp .eq 577, 3) := by decide +kernel
theorem dL_law_705 : decode cL_law 705 = .ok (.iconst 0, 1) := by decide +kernel
theorem dL_law_706 : decode cL_law 706 = .ok (.ireturn, 1) := by decide +kernel
theorem dL_law_707 : decode cL_law 707 = .ok (.aload_n 1, 1) := by decide +kernel
theorem dL_law_708 : decode cL_law 708 = .ok (.aload_n 0, 1) := by decide +kernel
theorem dL_law_709 : decode cL_law 709 = .ok (.iload_n 3, 1) := by decide +kernel
theorem dL_law_710 : decode cL_law 710 = .ok (.iconst 1, 1) := by decide +kernel
theorem dL_law_711 : decode cL_law 711 = .ok (.iadd, 1) := by decide +kernel
theorem dL_law_712 : decode cL_law 712 = .ok (.iaload, 1) := by decide +kernel
theorem dL_law_713 : decode cL_law 713 = .ok (.aload_n 0, 1) := by decide +kernel
theorem dL_law_714 : decode cL_law 714 = .ok (.iload_n 3, 1) := by decide +kernel
theorem dL_law_715 : decode cL_law 715 = .ok (.iconst 2, 1) := by decide +kernel
theorem dL_law_716 : decode cL_law 716 = .ok (.iadd, 1) := by decide +kernel
theorem dL_law_717 : decode cL_law 717 = .ok (.iaload, 1) := by decide +kernel
theorem dL_law_718 : decode cL_law 718 = .ok (.aload_n 0, 1) := by decide +kernel
theorem dL_law_719 : decode cL_law 719 = .ok (.iload_n 3, 1) := by decide +kernel
theorem dL_law_720 : decode cL_law 720 = .ok (.iconst 3, 1) := by decide +kernel
theorem dL_law_721 : decode cL_law 721 = .ok (.iadd, 1) := by decide +kernel
theorem dL_law_722 : decode cL_law 722 = .ok (.iaload, 1) := by decide +kernel
theorem dL_law_723 : decode cL_law 723 = .ok (.invokevirtual 85, 3) := by decide +kernel
theorem dL_law_726 : decode cL_law 726 = .ok (.aload_n 2, 1) := by decide +kernel
theorem dL_law_727 : decode cL_law 727 = .ok (.aload_n 0, 1) := by decide +kernel
theorem dL_law_728 : decode cL_law 728 = .ok (.iload_n 3, 1) := by decide +kernel
theorem dL_law_729 : decode cL_law 729 = .ok (.iconst 1, 1) := by decide +kernel
theorem dL_law_730 : decode cL_law 730 = .ok (.iadd, 1) := by decide +kernel
theorem dL_law_731 : decode cL_law 731 = .ok (.iaload, 1) := by decide +kernel
theorem dL_law_732 : decode cL_law 732 = .ok (.aload_n 0, 1) := by decide +kernel
theorem dL_law_733 : decode cL_law 733 = .ok (.iload_n 3, 1) := by decide +kernel
theorem dL_law_734 : decode cL_law 734 = .ok (.iconst 2, 1) := by decide +kernel
theorem dL_law_735 : decode cL_law 735 = .ok (.iadd, 1) := by decide +kernel
theorem dL_law_736 : decode cL_law 736 = .ok (.iaload, 1) := by decide +kernel
theorem dL_law_737 : decode cL_law 737 = .ok (.aload_n 0, 1) := by decide +kernel
theorem dL_law_738 : decode cL_law 738 = .ok (.iload_n 3, 1) := by decide +kernel
theorem dL_law_739 : decode cL_law 739 = .ok (.iconst 3, 1) := by decide +kernel
theorem dL_law_740 : decode cL_law 740 = .ok (.iadd, 1) := by decide +kernel
theorem dL_law_741 : decode cL_law 741 = .ok (.iaload, 1) := by decide +kernel
theorem dL_law_742 : decode cL_law 742 = .ok (.invokevirtual 88, 3) := by decide +kernel
theorem dL_law_745 : decode cL_law 745 = .ok (.if_icmp .eq 534, 3) := by decide +kernel
theorem dL_law_748 : decode cL_law 748 = .ok (.iconst 0, 1) := by decide +kernel
theorem dL_law_749 : decode cL_law 749 = .ok (.ireturn, 1) := by decide +kernel
theorem dL_law_750 : decode cL_law 750 = .ok (.aload_n 1, 1) := by decide +kernel
theorem dL_law_751 : decode cL_law 751 = .ok (.aload_n 0, 1) := by decide +kernel
theorem dL_law_752 : decode cL_law 752 = .ok (.iload_n 3, 1) := by decide +kernel
theorem dL_law_753 : decode cL_law 753 = .ok (.iconst 1, 1) := by decide +kernel
theorem dL_law_754 : decode cL_law 754 = .ok (.iadd, 1) := by decide +kernel
theorem dL_law_755 : decode cL_law 755 = .ok (.iaload, 1) := by decide +kernel
theorem dL_law_756 : decode cL_law 756 = .ok (.aload_n 0, 1) := by decide +kernel
theorem dL_law_757 : decode cL_law 757 = .ok (.iload_n 3, 1) := by decide +kernel
theorem dL_law_758 : decode cL_law 758 = .ok (.iconst 2, 1) := by decide +kernel
theorem dL_law_759 : decode cL_law 759 = .ok (.iadd, 1) := by decide +kernel
theorem dL_law_760 : decode cL_law 760 = .ok (.iaload, 1) := by decide +kernel
theorem dL_law_761 : decode cL_law 761 = .ok (.invokevirtual 89, 3) := by decide +kernel
theorem dL_law_764 : decode cL_law 764 = .ok (.aload_n 2, 1) := by decide +kernel
theorem dL_law_765 : decode cL_law 765 = .ok (.aload_n 0, 1) := by decide +kernel
theorem dL_law_766 : decode cL_law 766 = .ok (.iload_n 3, 1) := by decide +kernel
theorem dL_law_767 : decode cL_law 767 = .ok (.iconst 1, 1) := by decide +kernel
theorem dL_law_768 : decode cL_law 768 = .ok (.iadd, 1) := by decide +kernel
theorem dL_law_769 : decode cL_law 769 = .ok (.iaload, 1) := by decide +kernel
theorem dL_law_770 : decode cL_law 770 = .ok (.aload_n 0, 1) := by decide +kernel
theorem dL_law_771 : decode cL_law 771 = .ok (.iload_n 3, 1) := by decide +kernel
theorem dL_law_772 : decode cL_law 772 = .ok (.iconst 2, 1) := by decide +kernel
theorem dL_law_773 : decode cL_law 773 = .ok (.iadd, 1) := by decide +kernel
theorem dL_law_774 : decode cL_law 774 = .ok (.iaload, 1) := by decide +kernel
theorem dL_law_775 : decode cL_law 775 = .ok (.invokevirtual 92, 3) := by decide +kernel
theorem dL_law_778 : decode cL_law 778 = .ok (.if_icmp .eq 501, 3) := by decide +kernel
theorem dL_law_781 : decode cL_law 781 = .ok (.iconst 0, 1) := by decide +kernel
theorem dL_law_782 : decode cL_law 782 = .ok (.ireturn, 1) := by decide +kernel
theorem dL_law_783 : decode cL_law 783 = .ok (.aload_n 1, 1) := by decide +kernel
theorem dL_law_784 : decode cL_law 784 = .ok (.aload_n 0, 1) := by decide +kernel
theorem dL_law_785 : decode cL_law 785 = .ok (.iload_n 3, 1) := by decide +kernel
theorem dL_law_786 : decode cL_law 786 = .ok (.iconst 1, 1) := by decide +kernel
theorem dL_law_787 : decode cL_law 787 = .ok (.iadd, 1) := by decide +kernel
theorem dL_law_788 : decode cL_law 788 = .ok (.iaload, 1) := by decide +kernel
theorem dL_law_789 : decode cL_law 789 = .ok (.invokevirtual 93, 3) := by decide +kernel
theorem dL_law_792 : decode cL_law 792 = .ok (.aload_n 2, 1) := by decide +kernel
theorem dL_law_793 : decode cL_law 793 = .ok (.aload_n 0, 1) := by decide +kernel
theorem dL_law_794 : decode cL_law 794 = .ok (.iload_n 3, 1) := by decide +kernel
theorem dL_law_795 : decode cL_law 795 = .ok (.iconst 1, 1) := by decide +kernel
theorem dL_law_796 : decode cL_law 796 = .ok (.iadd, 1) := by decide +kernel
theorem dL_law_797 : decode cL_law 797 = .ok (.iaload, 1) := by decide +kernel
theorem dL_law_798 : decode cL_law 798 = .ok (.invokevirtual 96, 3) := by decide +kernel
theorem dL_law_801 : decode cL_law 801 = .ok (.if_icmp .eq 478, 3) := by decide +kernel
theorem dL_law_804 : decode cL_law 804 = .ok (.iconst 0, 1) := by decide +kernel
theorem dL_law_805 : decode cL_law 805 = .ok (.ireturn, 1) := by decide +kernel
theorem dL_law_806 : decode cL_law 806 = .ok (.aload_n 1, 1) := by decide +kernel
theorem dL_law_807 : decode cL_law 807 = .ok (.aload_n 0, 1) := by decide +kernel
theorem dL_law_808 : decode cL_law 808 = .ok (.iload_n 3, 1) := by decide +kernel
theorem dL_law_809 : decode cL_law 809 = .ok (.iconst 1, 1) := by decide +kernel
theorem dL_law_810 : decode cL_law 810 = .ok (.iadd, 1) := by decide +kernel
theorem dL_law_811 : decode cL_law 811 = .ok (.iaload, 1) := by decide +kernel
theorem dL_law_812 : decode cL_law 812 = .ok (.invokevirtual 97, 3) := by decide +kernel
theorem dL_law_815 : decode cL_law 815 = .ok (.aload_n 2, 1) := by decide +kernel
theorem dL_law_816 : decode cL_law 816 = .ok (.aload_n 0, 1) := by decide +kernel
theorem dL_law_817 : decode cL_law 817 = .ok (.iload_n 3, 1) := by decide +kernel
theorem dL_law_818 : decode cL_law 818 = .ok (.iconst 1, 1) := by decide +kernel
theorem dL_law_819 : decode cL_law 819 = .ok (.iadd, 1) := by decide +kernel
theorem dL_law_820 : decode cL_law 820 = .ok (.iaload, 1) := by decide +kernel
theorem dL_law_821 : decode cL_law 821 = .ok (.invokevirtual 100, 3) := by decide +kernel
theorem dL_law_824 : decode cL_law 824 = .ok (.if_icmp .eq 455, 3) := by decide +kernel
theorem dL_law_827 : decode cL_law 827 = .ok (.iconst 0, 1) := by decide +kernel
theorem dL_law_828 : decode cL_law 828 = .ok (.ireturn, 1) := by decide +kernel
theorem dL_law_829 : decode cL_law 829 = .ok (.aload_n 1, 1) := by decide +kernel
theorem dL_law_830 : decode cL_law 830 = .ok (.aload_n 0, 1) := by decide +kernel
theorem dL_law_831 : decode cL_law 831 = .ok (.iload_n 3, 1) := by decide +kernel
theorem dL_law_832 : decode cL_law 832 = .ok (.iconst 1, 1) := by decide +kernel
theorem dL_law_833 : decode cL_law 833 = .ok (.iadd, 1) := by decide +kernel
theorem dL_law_834 : decode cL_law 834 = .ok (.iaload, 1) := by decide +kernel
theorem dL_law_835 : decode cL_law 835 = .ok (.invokevirtual 101, 3) := by decide +kernel
theorem dL_law_838 : decode cL_law 838 = .ok (.aload_n 2, 1) := by decide +kernel
theorem dL_law_839 : decode cL_law 839 = .ok (.aload_n 0, 1) := by decide +kernel
theorem dL_law_840 : decode cL_law 840 = .ok (.iload_n 3, 1) := by decide +kernel
theorem dL_law_841 : decode cL_law 841 = .ok (.iconst 1, 1) := by decide +kernel
theorem dL_law_842 : decode cL_law 842 = .ok (.iadd, 1) := by decide +kernel
theorem dL_law_843 : decode cL_law 843 = .ok (.iaload, 1) := by decide +kernel
theorem dL_law_844 : decode cL_law 844 = .ok (.invokevirtual 104, 3) := by decide +kernel
theorem dL_law_847 : decode cL_law 847 = .ok (.if_icmp .eq 432, 3) := by decide +kernel
theorem dL_law_850 : decode cL_law 850 = .ok (.iconst 0, 1) := by decide +kernel
theorem dL_law_851 : decode cL_law 851 = .ok (.ireturn, 1) := by decide +kernel
theorem dL_law_852 : decode cL_law 852 = .ok (.aload_n 1, 1) := by decide +kernel
theorem dL_law_853 : decode cL_law 853 = .ok (.aload_n 0, 1) := by decide +kernel
theorem dL_law_854 : decode cL_law 854 = .ok (.iload_n 3, 1) := by decide +kernel
theorem dL_law_855 : decode cL_law 855 = .ok (.iconst 1, 1) := by decide +kernel
theorem dL_law_856 : decode cL_law 856 = .ok (.iadd, 1) := by decide +kernel
theorem dL_law_857 : decode cL_law 857 = .ok (.iaload, 1) := by decide +kernel
theorem dL_law_858 : decode cL_law 858 = .ok (.aload_n 0, 1) := by decide +kernel
theorem dL_law_859 : decode cL_law 859 = .ok (.iload_n 3, 1) := by decide +kernel
theorem dL_law_860 : decode cL_law 860 = .ok (.iconst 2, 1) := by decide +kernel
theorem dL_law_861 : decode cL_law 861 = .ok (.iadd, 1) := by decide +kernel
theorem dL_law_862 : decode cL_law 862 = .ok (.iaload, 1) := by decide +kernel
theorem dL_law_863 : decode cL_law 863 = .ok (.aload_n 0, 1) := by decide +kernel
theorem dL_law_864 : decode cL_law 864 = .ok (.iload_n 3, 1) := by decide +kernel
theorem dL_law_865 : decode cL_law 865 = .ok (.iconst 3, 1) := by decide +kernel
theorem dL_law_866 : decode cL_law 866 = .ok (.iadd, 1) := by decide +kernel
theorem dL_law_867 : decode cL_law 867 = .ok (.iaload, 1) := by decide +kernel
theorem dL_law_868 : decode cL_law 868 = .ok (.invokevirtual 105, 3) := by decide +kernel
theorem dL_law_871 : decode cL_law 871 = .ok (.aload_n 2, 1) := by decide +kernel
theorem dL_law_872 : decode cL_law 872 = .ok (.aload_n 0, 1) := by decide +kernel
theorem dL_law_873 : decode cL_law 873 = .ok (.iload_n 3, 1) := by decide +kernel
theorem dL_law_874 : decode cL_law 874 = .ok (.iconst 1, 1) := by decide +kernel
theorem dL_law_875 : decode cL_law 875 = .ok (.iadd, 1) := by decide +kernel
theorem dL_law_876 : decode cL_law 876 = .ok (.iaload, 1) := by decide +kernel
theorem dL_law_877 : decode cL_law 877 = .ok (.aload_n 0, 1) := by decide +kernel
theorem dL_law_878 : decode cL_law 878 = .ok (.iload_n 3, 1) := by decide +kernel
theorem dL_law_879 : decode cL_law 879 = .ok (.iconst 2, 1) := by decide +kernel
theorem dL_law_880 : decode cL_law 880 = .ok (.iadd, 1) := by decide +kernel
theorem dL_law_881 : decode cL_law 881 = .ok (.iaload, 1) := by decide +kernel
theorem dL_law_882 : decode cL_law 882 = .ok (.aload_n 0, 1) := by decide +kernel
theorem dL_law_883 : decode cL_law 883 = .ok (.iload_n 3, 1) := by decide +kernel
theorem dL_law_884 : decode cL_law 884 = .ok (.iconst 3, 1) := by decide +kernel
theorem dL_law_885 : decode cL_law 885 = .ok (.iadd, 1) := by decide +kernel
theorem dL_law_886 : decode cL_law 886 = .ok (.iaload, 1) := by decide +kernel
theorem dL_law_887 : decode cL_law 887 = .ok (.invokevirtual 108, 3) := by decide +kernel
theorem dL_law_890 : decode cL_law 890 = .ok (.if_icmp .eq 389, 3) := by decide +kernel
theorem dL_law_893 : decode cL_law 893 = .ok (.iconst 0, 1) := by decide +kernel
theorem dL_law_894 : decode cL_law 894 = .ok (.ireturn, 1) := by decide +kernel
theorem dL_law_895 : decode cL_law 895 = .ok (.aload_n 1, 1) := by decide +kernel
theorem dL_law_896 : decode cL_law 896 = .ok (.aload_n 0, 1) := by decide +kernel
theorem dL_law_897 : decode cL_law 897 = .ok (.iload_n 3, 1) := by decide +kernel
theorem dL_law_898 : decode cL_law 898 = .ok (.iconst 1, 1) := by decide +kernel
theorem dL_law_899 : decode cL_law 899 = .ok (.iadd, 1) := by decide +kernel
theorem dL_law_900 : decode cL_law 900 = .ok (.iaload, 1) := by decide +kernel
theorem dL_law_901 : decode cL_law 901 = .ok (.invokevirtual 109, 3) := by decide +kernel
theorem dL_law_904 : decode cL_law 904 = .ok (.aload_n 2, 1) := by decide +kernel
theorem dL_law_905 : decode cL_law 905 = .ok (.aload_n 0, 1) := by decide +kernel
theorem dL_law_906 : decode cL_law 906 = .ok (.iload_n 3, 1) := by decide +kernel
theorem dL_law_907 : decode cL_law 907 = .ok (.iconst 1, 1) := by decide +kernel
theorem dL_law_908 : decode cL_law 908 = .ok (.iadd, 1) := by decide +kernel
theorem dL_law_909 : decode cL_law 909 = .ok (.iaload, 1) := by decide +kernel
theorem dL_law_910 : decode cL_law 910 = .ok (.invokevirtual 112, 3) := by decide +kernel
theorem dL_law_913 : decode cL_law 913 = .ok (.if_icmp .eq 366, 3) := by decide +kernel
theorem dL_law_916 : decode cL_law 916 = .ok (.iconst 0, 1) := by decide +kernel
theorem dL_law_917 : decode cL_law 917 = .ok (.ireturn, 1) := by decide +kernel
theorem dL_law_918 : decode cL_law 918 = .ok (.aload_n 1, 1) := by decide +kernel
theorem dL_law_919 : decode cL_law 919 = .ok (.aload_n 0, 1) := by decide +kernel
theorem dL_law_920 : decode cL_law 920 = .ok (.iload_n 3, 1) := by decide +kernel
theorem dL_law_921 : decode cL_law 921 = .ok (.iconst 1, 1) := by decide +kernel
theorem dL_law_922 : decode cL_law 922 = .ok (.iadd, 1) := by decide +kernel
theorem dL_law_923 : decode cL_law 923 = .ok (.iaload, 1) := by decide +kernel
theorem dL_law_924 : decode cL_law 924 = .ok (.aload_n 0, 1) := by decide +kernel
theorem dL_law_925 : decode cL_law 925 = .ok (.iload_n 3, 1) := by decide +kernel
theorem dL_law_926 : decode cL_law 926 = .ok (.iconst 2, 1) := by decide +kernel
theorem dL_law_927 : decode cL_law 927 = .ok (.iadd, 1) := by decide +kernel
theorem dL_law_928 : decode cL_law 928 = .ok (.iaload, 1) := by decide +kernel
theorem dL_law_929 : decode cL_law 929 = .ok (.invokevirtual 113, 3) := by decide +kernel
theorem dL_law_932 : decode cL_law 932 = .ok (.aload_n 2, 1) := by decide +kernel
theorem dL_law_933 : decode cL_law 933 = .ok (.aload_n 0, 1) := by decide +kernel
theorem dL_law_934 : decode cL_law 934 = .ok (.iload_n 3, 1) := by decide +kernel
theorem dL_law_935 : decode cL_law 935 = .ok (.iconst 1, 1) := by decide +kernel
theorem dL_law_936 : decode cL_law 936 = .ok (.iadd, 1) := by decide +kernel
theorem dL_law_937 : decode cL_law 937 = .ok (.iaload, 1) := by decide +kernel
theorem dL_law_938 : decode cL_law 938 = .ok (.aload_n 0, 1) := by decide +kernel
theorem dL_law_939 : decode cL_law 939 = .ok (.iload_n 3, 1) := by decide +kernel
theorem dL_law_940 : decode cL_law 940 = .ok (.iconst 2, 1) := by decide +kernel
theorem dL_law_941 : decode cL_law 941 = .ok (.iadd, 1) := by decide +kernel
theorem dL_law_942 : decode cL_law 942 = .ok (.iaload, 1) := by decide +kernel
theorem dL_law_943 : decode cL_law 943 = .ok (.invokevirtual 116, 3) := by decide +kernel
theorem dL_law_946 : decode cL_law 946 = .ok (.if_icmp .eq 333, 3) := by decide +kernel
theorem dL_law_949 : decode cL_law 949 = .ok (.iconst 0, 1) := by decide +kernel
theorem dL_law_950 : decode cL_law 950 = .ok (.ireturn, 1) := by decide +kernel
theorem dL_law_951 : decode cL_law 951 = .ok (.aload_n 1, 1) := by decide +kernel
theorem dL_law_952 : decode cL_law 952 = .ok (.aload_n 0, 1) := by decide +kernel
theorem dL_law_953 : decode cL_law 953 = .ok (.iload_n 3, 1) := by decide +kernel
theorem dL_law_954 : decode cL_law 954 = .ok (.iconst 1, 1) := by decide +kernel
theorem dL_law_955 : decode cL_law 955 = .ok (.iadd, 1) := by decide +kernel
theorem dL_law_956 : decode cL_law 956 = .ok (.iaload, 1) := by decide +kernel
theorem dL_law_957 : decode cL_law 957 = .ok (.invokevirtual 117, 3) := by decide +kernel
theorem dL_law_960 : decode cL_law 960 = .ok (.aload_n 2, 1) := by decide +kernel
theorem dL_law_961 : decode cL_law 961 = .ok (.aload_n 0, 1) := by decide +kernel
theorem dL_law_962 : decode cL_law 962 = .ok (.iload_n 3, 1) := by decide +kernel
theorem dL_law_963 : decode cL_law 963 = .ok (.iconst 1, 1) := by decide +kernel
theorem dL_law_964 : decode cL_law 964 = .ok (.iadd, 1) := by decide +kernel
theorem dL_law_965 : decode cL_law 965 = .ok (.iaload, 1) := by decide +kernel
theorem dL_law_966 : decode cL_law 966 = .ok (.invokevirtual 120, 3) := by decide +kernel
theorem dL_law_969 : decode cL_law 969 = .ok (.if_icmp .eq 310, 3) := by decide +kernel
theorem dL_law_972 : decode cL_law 972 = .ok (.iconst 0, 1) := by decide +kernel
theorem dL_law_973 : decode cL_law 973 = .ok (.ireturn, 1) := by decide +kernel
theorem dL_law_974 : decode cL_law 974 = .ok (.aload_n 1, 1) := by decide +kernel
theorem dL_law_975 : decode cL_law 975 = .ok (.aload_n 0, 1) := by decide +kernel
theorem dL_law_976 : decode cL_law 976 = .ok (.iload_n 3, 1) := by decide +kernel
theorem dL_law_977 : decode cL_law 977 = .ok (.iconst 1, 1) := by decide +kernel
theorem dL_law_978 : decode cL_law 978 = .ok (.iadd, 1) := by decide +kernel
theorem dL_law_979 : decode cL_law 979 = .ok (.iaload, 1) := by decide +kernel
theorem dL_law_980 : decode cL_law 980 = .ok (.aload_n 0, 1) := by decide +kernel
theorem dL_law_981 : decode cL_law 981 = .ok (.iload_n 3, 1) := by decide +kernel
theorem dL_law_982 : decode cL_law 982 = .ok (.iconst 2, 1) := by decide +kernel
theorem dL_law_983 : decode cL_law 983 = .ok (.iadd, 1) := by decide +kernel
theorem dL_law_984 : decode cL_law 984 = .ok (.iaload, 1) := by decide +kernel
theorem dL_law_985 : decode cL_law 985 = .ok (.aload_n 0, 1) := by decide +kernel
theorem dL_law_986 : decode cL_law 986 = .ok (.iload_n 3, 1) := by decide +kernel
theorem dL_law_987 : decode cL_law 987 = .ok (.iconst 3, 1) := by decide +kernel
theorem dL_law_988 : decode cL_law 988 = .ok (.iadd, 1) := by decide +kernel
theorem dL_law_989 : decode cL_law 989 = .ok (.iaload, 1) := by decide +kernel
theorem dL_law_990 : decode cL_law 990 = .ok (.invokevirtual 121, 3) := by decide +kernel
theorem dL_law_993 : decode cL_law 993 = .ok (.aload_n 2, 1) := by decide +kernel
theorem dL_law_994 : decode cL_law 994 = .ok (.aload_n 0, 1) := by decide +kernel
theorem dL_law_995 : decode cL_law 995 = .ok (.iload_n 3, 1) := by decide +kernel
theorem dL_law_996 : decode cL_law 996 = .ok (.iconst 1, 1) := by decide +kernel
theorem dL_law_997 : decode cL_law 997 = .ok (.iadd, 1) := by decide +kernel
theorem dL_law_998 : decode cL_law 998 = .ok (.iaload, 1) := by decide +kernel
theorem dL_law_999 : decode cL_law 999 = .ok (.aload_n 0, 1) := by decide +kernel
theorem dL_law_1000 : decode cL_law 1000 = .ok (.iload_n 3, 1) := by decide +kernel
theorem dL_law_1001 : decode cL_law 1001 = .ok (.iconst 2, 1) := by decide +kernel
theorem dL_law_1002 : decode cL_law 1002 = .ok (.iadd, 1) := by decide +kernel
theorem dL_law_1003 : decode cL_law 1003 = .ok (.iaload, 1) := by decide +kernel
theorem dL_law_1004 : decode cL_law 1004 = .ok (.aload_n 0, 1) := by decide +kernel
theorem dL_law_1005 : decode cL_law 1005 = .ok (.iload_n 3, 1) := by decide +kernel
theorem dL_law_1006 : decode cL_law 1006 = .ok (.iconst 3, 1) := by decide +kernel
theorem dL_law_1007 : decode cL_law 1007 = .ok (.iadd, 1) := by decide +kernel
theorem dL_law_1008 : decode cL_law 1008 = .ok (.iaload, 1) := by decide +kernel
theorem dL_law_1009 : decode cL_law 1009 = .ok (.invokevirtual 124, 3) := by decide +kernel
theorem dL_law_1012 : decode cL_law 1012 = .ok (.if_icmp .eq 267, 3) := by decide +kernel
theorem dL_law_1015 : decode cL_law 1015 = .ok (.iconst 0, 1) := by decide +kernel
theorem dL_law_1016 : decode cL_law 1016 = .ok (.ireturn, 1) := by decide +kernel
theorem dL_law_1017 : decode cL_law 1017 = .ok (.aload_n 1, 1) := by decide +kernel
theorem dL_law_1018 : decode cL_law 1018 = .ok (.aload_n 0, 1) := by decide +kernel
theorem dL_law_1019 : decode cL_law 1019 = .ok (.iload_n 3, 1) := by decide +kernel
theorem dL_law_1020 : decode cL_law 1020 = .ok (.iconst 1, 1) := by decide +kernel
theorem dL_law_1021 : decode cL_law 1021 = .ok (.iadd, 1) := by decide +kernel
theorem dL_law_1022 : decode cL_law 1022 = .ok (.iaload, 1) := by decide +kernel
theorem dL_law_1023 : decode cL_law 1023 = .ok (.aload_n 0, 1) := by decide +kernel
theorem dL_law_1024 : decode cL_law 1024 = .ok (.iload_n 3, 1) := by decide +kernel
theorem dL_law_1025 : decode cL_law 1025 = .ok (.iconst 2, 1) := by decide +kernel
theorem dL_law_1026 : decode cL_law 1026 = .ok (.iadd, 1) := by decide +kernel
theorem dL_law_1027 : decode cL_law 1027 = .ok (.iaload, 1) := by decide +kernel
theorem dL_law_1028 : decode cL_law 1028 = .ok (.aload_n 0, 1) := by decide +kernel
theorem dL_law_1029 : decode cL_law 1029 = .ok (.iload_n 3, 1) := by decide +kernel
theorem dL_law_1030 : decode cL_law 1030 = .ok (.iconst 3, 1) := by decide +kernel
theorem dL_law_1031 : decode cL_law 1031 = .ok (.iadd, 1) := by decide +kernel
theorem dL_law_1032 : decode cL_law 1032 = .ok (.iaload, 1) := by decide +kernel
theorem dL_law_1033 : decode cL_law 1033 = .ok (.aload_n 0, 1) := by decide +kernel
theorem dL_law_1034 : decode cL_law 1034 = .ok (.iload_n 3, 1) := by decide +kernel
theorem dL_law_1035 : decode cL_law 1035 = .ok (.iconst 4, 1) := by decide +kernel
theorem dL_law_1036 : decode cL_law 1036 = .ok (.iadd, 1) := by decide +kernel
theorem dL_law_1037 : decode cL_law 1037 = .ok (.iaload, 1) := by decide +kernel
theorem dL_law_1038 : decode cL_law 1038 = .ok (.aload_n 0, 1) := by decide +kernel
theorem dL_law_1039 : decode cL_law 1039 = .ok (.iload_n 3, 1) := by decide +kernel
theorem dL_law_1040 : decode cL_law 1040 = .ok (.iconst 5, 1) := by decide +kernel
theorem dL_law_1041 : decode cL_law 1041 = .ok (.iadd, 1) := by decide +kernel
theorem dL_law_1042 : decode cL_law 1042 = .ok (.iaload, 1) := by decide +kernel
theorem dL_law_1043 : decode cL_law 1043 = .ok (.invokevirtual 125, 3) := by decide +kernel
theorem dL_law_1046 : decode cL_law 1046 = .ok (.aload_n 2, 1) := by decide +kernel
theorem dL_law_1047 : decode cL_law 1047 = .ok (.aload_n 0, 1) := by decide +kernel
theorem dL_law_1048 : decode cL_law 1048 = .ok (.iload_n 3, 1) := by decide +kernel
theorem dL_law_1049 : decode cL_law 1049 = .ok (.iconst 1, 1) := by decide +kernel
theorem dL_law_1050 : decode cL_law 1050 = .ok (.iadd, 1) := by decide +kernel
theorem dL_law_1051 : decode cL_law 1051 = .ok (.iaload, 1) := by decide +kernel
theorem dL_law_1052 : decode cL_law 1052 = .ok (.aload_n 0, 1) := by decide +kernel
theorem dL_law_1053 : decode cL_law 1053 = .ok (.iload_n 3, 1) := by decide +kernel
theorem dL_law_1054 : decode cL_law 1054 = .ok (.iconst 2, 1) := by decide +kernel
theorem dL_law_1055 : decode cL_law 1055 = .ok (.iadd, 1) := by decide +kernel
theorem dL_law_1056 : decode cL_law 1056 = .ok (.iaload, 1) := by decide +kernel
theorem dL_law_1057 : decode cL_law 1057 = .ok (.aload_n 0, 1) := by decide +kernel
theorem dL_law_1058 : decode cL_law 1058 = .ok (.iload_n 3, 1) := by decide +kernel
theorem dL_law_1059 : decode cL_law 1059 = .ok (.iconst 3, 1) := by decide +kernel
theorem dL_law_1060 : decode cL_law 1060 = .ok (.iadd, 1) := by decide +kernel
theorem dL_law_1061 : decode cL_law 1061 = .ok (.iaload, 1) := by decide +kernel
theorem dL_law_1062 : decode cL_law 1062 = .ok (.aload_n 0, 1) := by decide +kernel
theorem dL_law_1063 : decode cL_law 1063 = .ok (.iload_n 3, 1) := by decide +kernel
theorem dL_law_1064 : decode cL_law 1064 = .ok (.iconst 4, 1) := by decide +kernel
theorem dL_law_1065 : decode cL_law 1065 = .ok (.iadd, 1) := by decide +kernel
theorem dL_law_1066 : decode cL_law 1066 = .ok (.iaload, 1) := by decide +kernel
theorem dL_law_1067 : decode cL_law 1067 = .ok (.aload_n 0, 1) := by decide +kernel
theorem dL_law_1068 : decode cL_law 1068 = .ok (.iload_n 3, 1) := by decide +kernel
theorem dL_law_1069 : decode cL_law 1069 = .ok (.iconst 5, 1) := by decide +kernel
theorem dL_law_1070 : decode cL_law 1070 = .ok (.iadd, 1) := by decide +kernel
theorem dL_law_1071 : decode cL_law 1071 = .ok (.iaload, 1) := by decide +kernel
theorem dL_law_1072 : decode cL_law 1072 = .ok (.invokevirtual 129, 3) := by decide +kernel
theorem dL_law_1075 : decode cL_law 1075 = .ok (.lcmp, 1) := by decide +kernel
theorem dL_law_1076 : decode cL_law 1076 = .ok (.ifCond .eq 203, 3) := by decide +kernel
theorem dL_law_1079 : decode cL_law 1079 = .ok (.iconst 0, 1) := by decide +kernel
theorem dL_law_1080 : decode cL_law 1080 = .ok (.ireturn, 1) := by decide +kernel
theorem dL_law_1081 : decode cL_law 1081 = .ok (.aload_n 1, 1) := by decide +kernel
theorem dL_law_1082 : decode cL_law 1082 = .ok (.aload_n 0, 1) := by decide +kernel
theorem dL_law_1083 : decode cL_law 1083 = .ok (.iload_n 3, 1) := by decide +kernel
theorem dL_law_1084 : decode cL_law 1084 = .ok (.iconst 1, 1) := by decide +kernel
theorem dL_law_1085 : decode cL_law 1085 = .ok (.iadd, 1) := by decide +kernel
theorem dL_law_1086 : decode cL_law 1086 = .ok (.iaload, 1) := by decide +kernel
theorem dL_law_1087 : decode cL_law 1087 = .ok (.invokevirtual 130, 3) := by decide +kernel
theorem dL_law_1090 : decode cL_law 1090 = .ok (.aload_n 2, 1) := by decide +kernel
theorem dL_law_1091 : decode cL_law 1091 = .ok (.aload_n 0, 1) := by decide +kernel
theorem dL_law_1092 : decode cL_law 1092 = .ok (.iload_n 3, 1) := by decide +kernel
theorem dL_law_1093 : decode cL_law 1093 = .ok (.iconst 1, 1) := by decide +kernel
theorem dL_law_1094 : decode cL_law 1094 = .ok (.iadd, 1) := by decide +kernel
theorem dL_law_1095 : decode cL_law 1095 = .ok (.iaload, 1) := by decide +kernel
theorem dL_law_1096 : decode cL_law 1096 = .ok (.invokevirtual 134, 3) := by decide +kernel
theorem dL_law_1099 : decode cL_law 1099 = .ok (.lcmp, 1) := by decide +kernel
theorem dL_law_1100 : decode cL_law 1100 = .ok (.ifCond .eq 179, 3) := by decide +kernel
theorem dL_law_1103 : decode cL_law 1103 = .ok (.iconst 0, 1) := by decide +kernel
theorem dL_law_1104 : decode cL_law 1104 = .ok (.ireturn, 1) := by decide +kernel
theorem dL_law_1105 : decode cL_law 1105 = .ok (.aload_n 1, 1) := by decide +kernel
theorem dL_law_1106 : decode cL_law 1106 = .ok (.aload_n 0, 1) := by decide +kernel
theorem dL_law_1107 : decode cL_law 1107 = .ok (.iload_n 3, 1) := by decide +kernel
theorem dL_law_1108 : decode cL_law 1108 = .ok (.iconst 1, 1) := by decide +kernel
theorem dL_law_1109 : decode cL_law 1109 = .ok (.iadd, 1) := by decide +kernel
theorem dL_law_1110 : decode cL_law 1110 = .ok (.iaload, 1) := by decide +kernel
theorem dL_law_1111 : decode cL_law 1111 = .ok (.aload_n 0, 1) := by decide +kernel
theorem dL_law_1112 : decode cL_law 1112 = .ok (.iload_n 3, 1) := by decide +kernel
theorem dL_law_1113 : decode cL_law 1113 = .ok (.iconst 2, 1) := by decide +kernel
theorem dL_law_1114 : decode cL_law 1114 = .ok (.iadd, 1) := by decide +kernel
theorem dL_law_1115 : decode cL_law 1115 = .ok (.iaload, 1) := by decide +kernel
theorem dL_law_1116 : decode cL_law 1116 = .ok (.invokevirtual 135, 3) := by decide +kernel
theorem dL_law_1119 : decode cL_law 1119 = .ok (.aload_n 2, 1) := by decide +kernel
theorem dL_law_1120 : decode cL_law 1120 = .ok (.aload_n 0, 1) := by decide +kernel
theorem dL_law_1121 : decode cL_law 1121 = .ok (.iload_n 3, 1) := by decide +kernel
theorem dL_law_1122 : decode cL_law 1122 = .ok (.iconst 1, 1) := by decide +kernel
theorem dL_law_1123 : decode cL_law 1123 = .ok (.iadd, 1) := by decide +kernel
theorem dL_law_1124 : decode cL_law 1124 = .ok (.iaload, 1) := by decide +kernel
theorem dL_law_1125 : decode cL_law 1125 = .ok (.aload_n 0, 1) := by decide +kernel
theorem dL_law_1126 : decode cL_law 1126 = .ok (.iload_n 3, 1) := by decide +kernel
theorem dL_law_1127 : decode cL_law 1127 = .ok (.iconst 2, 1) := by decide +kernel
theorem dL_law_1128 : decode cL_law 1128 = .ok (.iadd, 1) := by decide +kernel
theorem dL_law_1129 : decode cL_law 1129 = .ok (.iaload, 1) := by decide +kernel
theorem dL_law_1130 : decode cL_law 1130 = .ok (.invokevirtual 138, 3) := by decide +kernel
theorem dL_law_1133 : decode cL_law 1133 = .ok (.if_icmp .eq 146, 3) := by decide +kernel
theorem dL_law_1136 : decode cL_law 1136 = .ok (.iconst 0, 1) := by decide +kernel
theorem dL_law_1137 : decode cL_law 1137 = .ok (.ireturn, 1) := by decide +kernel
theorem dL_law_1138 : decode cL_law 1138 = .ok (.aload_n 1, 1) := by decide +kernel
theorem dL_law_1139 : decode cL_law 1139 = .ok (.aload_n 0, 1) := by decide +kernel
theorem dL_law_1140 : decode cL_law 1140 = .ok (.iload_n 3, 1) := by decide +kernel
theorem dL_law_1141 : decode cL_law 1141 = .ok (.iconst 1, 1) := by decide +kernel
theorem dL_law_1142 : decode cL_law 1142 = .ok (.iadd, 1) := by decide +kernel
theorem dL_law_1143 : decode cL_law 1143 = .ok (.iaload, 1) := by decide +kernel
theorem dL_law_1144 : decode cL_law 1144 = .ok (.invokevirtual 139, 3) := by decide +kernel
theorem dL_law_1147 : decode cL_law 1147 = .ok (.aload_n 2, 1) := by decide +kernel
theorem dL_law_1148 : decode cL_law 1148 = .ok (.aload_n 0, 1) := by decide +kernel
theorem dL_law_1149 : decode cL_law 1149 = .ok (.iload_n 3, 1) := by decide +kernel
theorem dL_law_1150 : decode cL_law 1150 = .ok (.iconst 1, 1) := by decide +kernel
theorem dL_law_1151 : decode cL_law 1151 = .ok (.iadd, 1) := by decide +kernel
theorem dL_law_1152 : decode cL_law 1152 = .ok (.iaload, 1) := by decide +kernel
theorem dL_law_1153 : decode cL_law 1153 = .ok (.invokevirtual 142, 3) := by decide +kernel
theorem dL_law_1156 : decode cL_law 1156 = .ok (.if_icmp .eq 123, 3) := by decide +kernel
theorem dL_law_1159 : decode cL_law 1159 = .ok (.iconst 0, 1) := by decide +kernel
theorem dL_law_1160 : decode cL_law 1160 = .ok (.ireturn, 1) := by decide +kernel
theorem dL_law_1161 : decode cL_law 1161 = .ok (.aload_n 1, 1) := by decide +kernel
theorem dL_law_1162 : decode cL_law 1162 = .ok (.invokevirtual 143, 3) := by decide +kernel
theorem dL_law_1165 : decode cL_law 1165 = .ok (.aload_n 2, 1) := by decide +kernel
theorem dL_law_1166 : decode cL_law 1166 = .ok (.invokevirtual 146, 3) := by decide +kernel
theorem dL_law_1169 : decode cL_law 1169 = .ok (.if_icmp .eq 110, 3) := by decide +kernel
theorem dL_law_1172 : decode cL_law 1172 = .ok (.iconst 0, 1) := by decide +kernel
theorem dL_law_1173 : decode cL_law 1173 = .ok (.ireturn, 1) := by decide +kernel
theorem dL_law_1174 : decode cL_law 1174 = .ok (.aload_n 1, 1) := by decide +kernel
theorem dL_law_1175 : decode cL_law 1175 = .ok (.invokevirtual 147, 3) := by decide +kernel
theorem dL_law_1178 : decode cL_law 1178 = .ok (.aload_n 2, 1) := by decide +kernel
theorem dL_law_1179 : decode cL_law 1179 = .ok (.invokevirtual 150, 3) := by decide +kernel
theorem dL_law_1182 : decode cL_law 1182 = .ok (.if_icmp .eq 97, 3) := by decide +kernel
theorem dL_law_1185 : decode cL_law 1185 = .ok (.iconst 0, 1) := by decide +kernel
theorem dL_law_1186 : decode cL_law 1186 = .ok (.ireturn, 1) := by decide +kernel
theorem dL_law_1187 : decode cL_law 1187 = .ok (.aload_n 1, 1) := by decide +kernel
theorem dL_law_1188 : decode cL_law 1188 = .ok (.aload_n 0, 1) := by decide +kernel
theorem dL_law_1189 : decode cL_law 1189 = .ok (.iload_n 3, 1) := by decide +kernel
theorem dL_law_1190 : decode cL_law 1190 = .ok (.iconst 1, 1) := by decide +kernel
theorem dL_law_1191 : decode cL_law 1191 = .ok (.iadd, 1) := by decide +kernel
theorem dL_law_1192 : decode cL_law 1192 = .ok (.iaload, 1) := by decide +kernel
theorem dL_law_1193 : decode cL_law 1193 = .ok (.aload_n 0, 1) := by decide +kernel
theorem dL_law_1194 : decode cL_law 1194 = .ok (.iload_n 3, 1) := by decide +kernel
theorem dL_law_1195 : decode cL_law 1195 = .ok (.iconst 2, 1) := by decide +kernel
theorem dL_law_1196 : decode cL_law 1196 = .ok (.iadd, 1) := by decide +kernel
theorem dL_law_1197 : decode cL_law 1197 = .ok (.iaload, 1) := by decide +kernel
theorem dL_law_1198 : decode cL_law 1198 = .ok (.aload_n 0, 1) := by decide +kernel
theorem dL_law_1199 : decode cL_law 1199 = .ok (.iload_n 3, 1) := by decide +kernel
theorem dL_law_1200 : decode cL_law 1200 = .ok (.iconst 3, 1) := by decide +kernel
theorem dL_law_1201 : decode cL_law 1201 = .ok (.iadd, 1) := by decide +kernel
theorem dL_law_1202 : decode cL_law 1202 = .ok (.iaload, 1) := by decide +kernel
theorem dL_law_1203 : decode cL_law 1203 = .ok (.invokevirtual 151, 3) := by decide +kernel
theorem dL_law_1206 : decode cL_law 1206 = .ok (.aload_n 2, 1) := by decide +kernel
theorem dL_law_1207 : decode cL_law 1207 = .ok (.aload_n 0, 1) := by decide +kernel
theorem dL_law_1208 : decode cL_law 1208 = .ok (.iload_n 3, 1) := by decide +kernel
theorem dL_law_1209 : decode cL_law 1209 = .ok (.iconst 1, 1) := by decide +kernel
theorem dL_law_1210 : decode cL_law 1210 = .ok (.iadd, 1) := by decide +kernel
theorem dL_law_1211 : decode cL_law 1211 = .ok (.iaload, 1) := by decide +kernel
theorem dL_law_1212 : decode cL_law 1212 = .ok (.aload_n 0, 1) := by decide +kernel
theorem dL_law_1213 : decode cL_law 1213 = .ok (.iload_n 3, 1) := by decide +kernel
theorem dL_law_1214 : decode cL_law 1214 = .ok (.iconst 2, 1) := by decide +kernel
theorem dL_law_1215 : decode cL_law 1215 = .ok (.iadd, 1) := by decide +kernel
theorem dL_law_1216 : decode cL_law 1216 = .ok (.iaload, 1) := by decide +kernel
theorem dL_law_1217 : decode cL_law 1217 = .ok (.aload_n 0, 1) := by decide +kernel
theorem dL_law_1218 : decode cL_law 1218 = .ok (.iload_n 3, 1) := by decide +kernel
theorem dL_law_1219 : decode cL_law 1219 = .ok (.iconst 3, 1) := by decide +kernel
theorem dL_law_1220 : decode cL_law 1220 = .ok (.iadd, 1) := by decide +kernel
theorem dL_law_1221 : decode cL_law 1221 = .ok (.iaload, 1) := by decide +kernel
theorem dL_law_1222 : decode cL_law 1222 = .ok (.invokevirtual 154, 3) := by decide +kernel
theorem dL_law_1225 : decode cL_law 1225 = .ok (.if_icmp .eq 54, 3) := by decide +kernel
theorem dL_law_1228 : decode cL_law 1228 = .ok (.iconst 0, 1) := by decide +kernel
theorem dL_law_1229 : decode cL_law 1229 = .ok (.ireturn, 1) := by decide +kernel
theorem dL_law_1230 : decode cL_law 1230 = .ok (.aload_n 1, 1) := by decide +kernel
theorem dL_law_1231 : decode cL_law 1231 = .ok (.invokevirtual 155, 3) := by decide +kernel
theorem dL_law_1234 : decode cL_law 1234 = .ok (.aload_n 2, 1) := by decide +kernel
theorem dL_law_1235 : decode cL_law 1235 = .ok (.invokevirtual 158, 3) := by decide +kernel
theorem dL_law_1238 : decode cL_law 1238 = .ok (.if_icmp .eq 41, 3) := by decide +kernel
theorem dL_law_1241 : decode cL_law 1241 = .ok (.iconst 0, 1) := by decide +kernel
theorem dL_law_1242 : decode cL_law 1242 = .ok (.ireturn, 1) := by decide +kernel
theorem dL_law_1243 : decode cL_law 1243 = .ok (.aload_n 1, 1) := by decide +kernel
theorem dL_law_1244 : decode cL_law 1244 = .ok (.invokevirtual 159, 3) := by decide +kernel
theorem dL_law_1247 : decode cL_law 1247 = .ok (.aload_n 2, 1) := by decide +kernel
theorem dL_law_1248 : decode cL_law 1248 = .ok (.invokevirtual 162, 3) := by decide +kernel
theorem dL_law_1251 : decode cL_law 1251 = .ok (.if_icmp .eq 28, 3) := by decide +kernel
theorem dL_law_1254 : decode cL_law 1254 = .ok (.iconst 0, 1) := by decide +kernel
theorem dL_law_1255 : decode cL_law 1255 = .ok (.ireturn, 1) := by decide +kernel
theorem dL_law_1256 : decode cL_law 1256 = .ok (.aload_n 1, 1) := by decide +kernel
theorem dL_law_1257 : decode cL_law 1257 = .ok (.aload_n 0, 1) := by decide +kernel
theorem dL_law_1258 : decode cL_law 1258 = .ok (.iload_n 3, 1) := by decide +kernel
theorem dL_law_1259 : decode cL_law 1259 = .ok (.iconst 1, 1) := by decide +kernel
theorem dL_law_1260 : decode cL_law 1260 = .ok (.iadd, 1) := by decide +kernel
theorem dL_law_1261 : decode cL_law 1261 = .ok (.iaload, 1) := by decide +kernel
theorem dL_law_1262 : decode cL_law 1262 = .ok (.invokevirtual 163, 3) := by decide +kernel
theorem dL_law_1265 : decode cL_law 1265 = .ok (.aload_n 2, 1) := by decide +kernel
theorem dL_law_1266 : decode cL_law 1266 = .ok (.aload_n 0, 1) := by decide +kernel
theorem dL_law_1267 : decode cL_law 1267 = .ok (.iload_n 3, 1) := by decide +kernel
theorem dL_law_1268 : decode cL_law 1268 = .ok (.iconst 1, 1) := by decide +kernel
theorem dL_law_1269 : decode cL_law 1269 = .ok (.iadd, 1) := by decide +kernel
theorem dL_law_1270 : decode cL_law 1270 = .ok (.iaload, 1) := by decide +kernel
theorem dL_law_1271 : decode cL_law 1271 = .ok (.invokevirtual 166, 3) := by decide +kernel
theorem dL_law_1274 : decode cL_law 1274 = .ok (.if_icmp .eq 5, 3) := by decide +kernel
theorem dL_law_1277 : decode cL_law 1277 = .ok (.iconst 0, 1) := by decide +kernel
theorem dL_law_1278 : decode cL_law 1278 = .ok (.ireturn, 1) := by decide +kernel
theorem dL_law_1279 : decode cL_law 1279 = .ok (.iinc 3 6, 3) := by decide +kernel
theorem dL_law_1282 : decode cL_law 1282 = .ok (.goto (-1264), 3) := by decide +kernel
theorem dL_law_1285 : decode cL_law 1285 = .ok (.iconst 1, 1) := by decide +kernel
theorem dL_law_1286 : decode cL_law 1286 = .ok (.ireturn, 1) := by decide +kernel
end
section
/-! The machine layer. A world of places: arrays of ints and int fields by place (zSt); references are fixed by the layout.
zZ: from this frame the method comes to its end with 'post'. zC: a method's contract over the whole world of its side. -/
abbrev zLay : Type := Nat → (Nat ⊕ ((Nat × List (Option Nat)) ⊕ List Nat))
abbrev zSt : Type := (Nat → Nat → Int32) × (Nat → Nat → Int32)
abbrev zCx : Type := Launch × va_G × ClassId × ClassId × (Nat → Nat) × (State → Prop)
abbrev zM : Type := MethodName × ByteArray × Nat × Option FieldType × Nat
abbrev zad (x : zCx) : Nat → Nat := x.2.2.2.2.1
def u2 (f : Nat → Nat → Int32) (a b : Nat) (v : Int32) : Nat → Nat → Int32 := fun i j => if i = a ∧ j = b then v else f i j
/-- the class's side: 0 the object, 1 the row of kinds, 2 .. 7 the kinds, 8 16 24 the towns with seven rows each, 32 the telling, 33 its letters, 34 told, 35 refusals, 36 free, 37 38 the worths -/
def zlayC : zLay := fun k =>
  if k = 0 then .inr (.inl (8, [some 8, some 16, some 24, some 32, some 34, some 35, some 36, some 37, some 38, none, none]))
  else if k = 1 then .inr (.inr [2, 3, 4, 5, 6, 7])
  else if k = 2 then .inr (.inl (5, []))
  else if k = 3 then .inr (.inl (0, []))
  else if k = 4 then .inr (.inl (4, []))
  else if k = 5 then .inr (.inl (3, []))
  else if k = 6 then .inr (.inl (1, []))
  else if k = 7 then .inr (.inl (2, []))
  else if k = 8 ∨ k = 16 ∨ k = 24 then .inr (.inl (7, [some 1, some (k + 1), some (k + 2), some (k + 3), some (k + 4), some (k + 5), some (k + 6), some (k + 7), none, none]))
  else if k < 32 then .inl 8
  else if k = 32 then .inr (.inl (6, [some 33, none]))
  else if k = 33 then .inl 96
  else if k = 34 then .inl 16
  else if k = 35 then .inl 7
  else if k = 36 then .inl 8
  else .inl 4
/-- the reference's side: 0 the object, 1 s, 2 m, 3 image, 4 was, 5 lent, 6 letters, 7 row, 8 refused, 9 numbers -/
def zlayM : zLay := fun k =>
  if k = 0 then .inr (.inl (9, [some 1, some 2, some 3, some 4, some 5, none, some 6, some 7, some 8, none, none, none, some 9, none]))
  else if k < 6 then .inl 58
  else if k = 6 then .inl 96
  else if k = 7 then .inl 16
  else if k = 8 then .inl 7
  else .inl 2
def zlay (b : Bool) : zLay := match b with
  | true => zlayC
  | false => zlayM
def zN (b : Bool) : Nat := match b with
  | true => 39
  | false => 10
def zfs (ad : Nat → Nat) (g : Nat → Int32) : List (Option Nat) → Nat → List Value
  | [], _ => []
  | none :: r, j => .int (g j) :: zfs ad g r (j + 1)
  | some p :: r, j => .ref (ad p) :: zfs ad g r (j + 1)
theorem zfs_ref {ad : Nat → Nat} {g : Nat → Int32} {p : Nat} : ∀ (fs : List (Option Nat)) (j0 j : Nat), fs[j]? = some (some p) → (zfs ad g fs j0)[j]? = some (.ref (ad p)) := by
  intro fs
  induction fs with
  | nil => intro j0 j h; simp at h
  | cons o r ih =>
    intro j0 j h
    cases j with
    | zero => simp at h; subst h; rfl
    | succ j =>
      have h' : r[j]? = some (some p) := by simpa using h
      cases o <;> simpa [zfs] using ih (j0 + 1) j h'
theorem zfs_int {ad : Nat → Nat} {g : Nat → Int32} : ∀ (fs : List (Option Nat)) (j0 j : Nat), fs[j]? = some none → (zfs ad g fs j0)[j]? = some (.int (g (j0 + j))) := by
  intro fs
  induction fs with
  | nil => intro j0 j h; simp at h
  | cons o r ih =>
    intro j0 j h
    cases j with
    | zero => simp at h; subst h; rfl
    | succ j =>
      have h' : r[j]? = some none := by simpa using h
      have e : j0 + (j + 1) = j0 + 1 + j := by omega
      rw [e]
      cases o <;> simpa [zfs] using ih (j0 + 1) j h'
theorem zfs_len {ad : Nat → Nat} {g : Nat → Int32} : ∀ (fs : List (Option Nat)) (j0 : Nat), (zfs ad g fs j0).length = fs.length := by
  intro fs
  induction fs with
  | nil => intro j0; rfl
  | cons o r ih => intro j0; cases o <;> simp [zfs, ih]
theorem zfs_congr {ad : Nat → Nat} {g g' : Nat → Int32} : ∀ (fs : List (Option Nat)) (j0 : Nat), (∀ j, j0 ≤ j → g j = g' j) → zfs ad g fs j0 = zfs ad g' fs j0 := by
  intro fs
  induction fs with
  | nil => intro j0 _; rfl
  | cons o r ih =>
    intro j0 h
    cases o with
    | none => simp only [zfs]; rw [h j0 (Nat.le_refl _), ih (j0 + 1) (fun j hj => h j (by omega))]
    | some p => simp only [zfs]; rw [ih (j0 + 1) (fun j hj => h j (by omega))]
theorem zfs_set {ad : Nat → Nat} {g : Nat → Int32} {v : Int32} : ∀ (fs : List (Option Nat)) (j0 j : Nat), fs[j]? = some none → (zfs ad g fs j0).set j (.int v) = zfs ad (fun i => if i = j0 + j then v else g i) fs j0 := by
  intro fs
  induction fs with
  | nil => intro j0 j h; simp at h
  | cons o r ih =>
    intro j0 j h
    cases j with
    | zero =>
      simp at h; subst h
      simp only [zfs, List.set_cons_zero]
      rw [zfs_congr r (j0 + 1) (g := g) (g' := fun i => if i = j0 + 0 then v else g i) (fun j hj => by simp; omega)]
      simp
    | succ j =>
      have h' : r[j]? = some none := by simpa using h
      have e : j0 + (j + 1) = j0 + 1 + j := by omega
      cases o with
      | none =>
        simp only [zfs, List.set_cons_succ, ih (j0 + 1) j h']
        rw [e, if_neg (by omega)]
      | some p =>
        simp only [zfs, List.set_cons_succ, ih (j0 + 1) j h']
        rw [e]
def zcell (x : zCx) (b : Bool) (S : zSt) (k : Nat) : va_E := match zlay b k with
  | .inl n => .inl (x.2.2.1, n, .inl (S.1 k))
  | .inr (.inl o) => .inr (o.1, zfs (zad x) (S.2 k) o.2 0)
  | .inr (.inr ps) => .inl (x.2.2.2.1, ps.length, .inr (.inr (.inr (.inr (fun i => (ps[i]?).map (zad x))))))
theorem zcell_arr {x : zCx} {b : Bool} {S : zSt} {k n : Nat} (h : zlay b k = .inl n) : zcell x b S k = .inl (x.2.2.1, n, .inl (S.1 k)) := by unfold zcell; rw [h]
theorem zcell_obj {x : zCx} {b : Bool} {S : zSt} {k ci : Nat} {fs : List (Option Nat)} (h : zlay b k = .inr (.inl (ci, fs))) : zcell x b S k = .inr (ci, zfs (zad x) (S.2 k) fs 0) := by unfold zcell; rw [h]
theorem zcell_refs {x : zCx} {b : Bool} {S : zSt} {k : Nat} {ps : List Nat} (h : zlay b k = .inr (.inr ps)) : zcell x b S k = .inl (x.2.2.2.1, ps.length, .inr (.inr (.inr (.inr (fun i => (ps[i]?).map (zad x)))))) := by unfold zcell; rw [h]
def zwd (x : zCx) (b : Bool) (S : zSt) : va_W := (List.range (zN b)).map (fun k => (zad x k, zcell x b S k))
theorem zwd_get {x : zCx} {b : Bool} {S : zSt} {k : Nat} (h : k < zN b) : (zwd x b S)[k]? = some (zad x k, zcell x b S k) := by simp [zwd, h]
theorem zwd_some {x : zCx} {b : Bool} {S : zSt} {k : Nat} {q : Nat × va_E} (h : (zwd x b S)[k]? = some q) : k < zN b ∧ q = (zad x k, zcell x b S k) := by
  by_cases hk : k < zN b
  · rw [zwd_get hk] at h; exact ⟨hk, (Option.some.inj h).symm⟩
  · simp [zwd, hk] at h
theorem zwd_set {x : zCx} {b : Bool} {S S' : zSt} {k : Nat} (h : ∀ j, j ≠ k → zcell x b S' j = zcell x b S j) : (zwd x b S).set k (zad x k, zcell x b S' k) = zwd x b S' := by
  apply List.ext_getElem?
  intro j
  rw [List.getElem?_set]
  by_cases hj : j < zN b
  · by_cases e : k = j
    · subst e
      simp [zwd, hj]
    · rw [if_neg e, zwd_get hj, zwd_get hj, h j (fun q => e q.symm)]
  · by_cases e : k = j
    · subst e
      simp [zwd, hj]
    · rw [if_neg e]
      simp [zwd, hj]
def zA (x : zCx) (b : Bool) : Nat → Prop := fun q => ∃ k, k < zN b ∧ q = zad x k
def zNest (w : Cond) : Bool := match w with
  | .fieldLinkNest _ _ _ _ _ _ => true
  | .methodLinkNest _ _ _ _ => true
  | _ => false
def zStable (A : Nat → Prop) (E : State → Prop) : Prop := ∀ U V : State, U.heap.size ≤ V.heap.size → (∀ q : Nat, q < U.heap.size → ¬ A q → V.heap[q]? = U.heap[q]?) → U.WarmedH V.vm → E U → E V
/-- what holds at every state: the classes, the tables' words, the nest's words, what else the context asks -/
def zEnv (x : zCx) (b : Bool) (U : State) : Prop :=
  va_K x.2.1 vwCl [(x.2.2.1, .int), (x.2.2.2.1, .object RX5)] U ∧ (∀ w ∈ wsL_law, ∀ a : Array Value, w.before a U = true) ∧ (∀ w ∈ lw_tbl, zNest w = true → va_Nw w U) ∧ x.2.2.2.2.2 U ∧
  (∀ i j, i < zN b → j < zN b → zad x i = zad x j → i = j) ∧ zStable (zA x b) x.2.2.2.2.2
theorem zWord_all : wsL_law.all goodWord = true := by decide +kernel
theorem zWord {w : Cond} (h : w ∈ wsL_law) : (w.onTables && w.keeps) = true ∨ ∃ ty, w = .arrayClass ty := good_of_word (List.all_eq_true.mp zWord_all w h)
theorem zNw_warm {w : Cond} (h : zNest w = true) {s U : State} (hW : s.WarmedH U.vm) (hZ : va_Nw w s) : va_Nw w U := by
  cases w with
  | fieldLinkNest a i r n d t => exact va_Nw.warmF hW hZ
  | methodLinkNest a i r t => exact va_Nw.warmM hW hZ
  | _ => cases h
theorem zEnv.go {x : zCx} {b : Bool} {s U : State} (h : zEnv x b s) (hz : s.heap.size ≤ U.heap.size) (hk : ∀ q : Nat, q < s.heap.size → ¬ zA x b q → U.heap[q]? = s.heap[q]?) (hW : s.WarmedH U.vm) : zEnv x b U := by
  obtain ⟨h1, h2, h3, h4, h5, h6⟩ := h
  exact ⟨va_K.moved hW.alike h1, fun w hw a => word_at hW (zWord hw) (h2 w hw a), fun w hw hn => zNw_warm hn hW (h3 w hw hn), h6 s U hz hk hW h4, h5, h6⟩
theorem zEnv.call {x : zCx} {b : Bool} {U : State} (h : zEnv x b U) (g : JFrame) (mk : MethodId) (a : Array Value) : zEnv x b (U.calling g mk a) :=
  h.go (Nat.le_refl _) (fun _ _ _ => rfl) (State.WarmedH.refl U)
theorem zD {x : zCx} {b : Bool} {U : State} (h : zEnv x b U) (S : zSt) : va_D (zA x b) (zwd x b S) := by
  refine ⟨fun i j p q hi hj e => ?_, fun k q hk => ?_⟩
  · obtain ⟨a1, a2⟩ := zwd_some hi
    obtain ⟨b1, b2⟩ := zwd_some hj
    subst a2; subst b2
    exact h.2.2.2.2.1 i j a1 b1 e
  · obtain ⟨a1, a2⟩ := zwd_some hk
    subst a2
    exact ⟨k, a1, rfl⟩
def zrm (d : Nat) : Room := { frames := d, cells := 0, slots := 0, locals := 38 * d }
def zget : List (Nat × Value) → Nat → Option Value
  | [], _ => none
  | q :: r, i => bif Nat.beq q.1 i then some q.2 else zget r i
def zlv (ls : Array Slot) (nL : Nat) (lv : List (Nat × Value)) : Prop := ls.size = nL ∧ lv_wf ls ∧ ∀ i v, zget lv i = some v → ls[i]? = some (.val v)
theorem zget_mem : ∀ (l : List (Nat × Value)) (i : Nat) (v : Value), zget l i = some v → (i, v) ∈ l := by
  intro l
  induction l with
  | nil => intro i v h; simp [zget] at h
  | cons q r ih =>
    intro i v h
    unfold zget at h
    cases e : Nat.beq q.1 i with
    | true =>
      rw [e] at h
      have e1 : q.1 = i := Nat.eq_of_beq_eq_true e
      have e2 : q.2 = v := Option.some.inj h
      rw [← e1, ← e2]
      exact List.mem_cons_self
    | false =>
      rw [e] at h
      exact List.mem_cons_of_mem _ (ih i v h)
theorem zlv_of {ls : Array Slot} {nL : Nat} {l : List (Nat × Value)} (h : lv_has ls nL l) : zlv ls nL l := ⟨h.1, h.2.1, fun i v hv => h.2.2 (i, v) (zget_mem l i v hv)⟩
/-- all that the list says, each once -/
def zlist (lv : List (Nat × Value)) : List (Nat × Value) := lv.filterMap (fun q => (zget lv q.1).map (fun v => (q.1, v)))
theorem zlist_of {ls : Array Slot} {nL : Nat} {lv : List (Nat × Value)} (h : zlv ls nL lv) : lv_has ls nL (zlist lv) := by
  refine ⟨h.1, h.2.1, fun q hq => ?_⟩
  obtain ⟨r, -, hr⟩ := List.mem_filterMap.mp hq
  cases e : zget lv r.1 with
  | none => rw [e] at hr; cases hr
  | some v => rw [e] at hr; cases hr; exact h.2.2 r.1 v e
theorem zlist_mem {lv : List (Nat × Value)} {i : Nat} {v : Value} (h : zget lv i = some v) : (i, v) ∈ zlist lv :=
  List.mem_filterMap.mpr ⟨(i, v), zget_mem lv i v h, by rw [h]; rfl⟩
def zok1 (lv : List (Nat × Value)) (i : Nat) : Bool := match i with
  | 0 => true
  | j + 1 => match zget lv j with
    | none => true
    | some v => Nat.beq v.category 1
theorem zok1_cat {lv : List (Nat × Value)} {i j : Nat} {v : Value} (h : zok1 lv i = true) (hj : j + 1 = i) (hv : zget lv j = some v) : ¬ v.category = 2 := by
  subst hj
  unfold zok1 at h
  simp only [hv] at h
  have := Nat.eq_of_beq_eq_true h
  omega
theorem zget_cons_ne {q : Nat × Value} {r : List (Nat × Value)} {i : Nat} (h : ¬ q.1 = i) : zget (q :: r) i = zget r i := by
  unfold zget
  cases e : Nat.beq q.1 i with
  | true => exact absurd (Nat.eq_of_beq_eq_true e) h
  | false => cases r <;> rfl
theorem zget_cons_eq {i : Nat} {v : Value} {r : List (Nat × Value)} : zget ((i, v) :: r) i = some v := by
  unfold zget
  have : Nat.beq i i = true := Nat.beq_refl i
  simp only [this, cond_true]
theorem zstore1 {ls' : Array Slot} {nL i : Nat} {v : Value} {lv : List (Nat × Value)} (hok : zok1 lv i = true) (h : lv_has ls' nL ((i, v) :: (zlist lv).filter (fun q => !(q.1 == i) && !(q.1 + 1 == i && q.2.category == 2)))) : zlv ls' nL ((i, v) :: lv) := by
  refine ⟨h.1, h.2.1, fun j w hw => ?_⟩
  by_cases e : i = j
  · subst e
    rw [zget_cons_eq] at hw
    cases hw
    exact h.2.2 (i, v) List.mem_cons_self
  · rw [zget_cons_ne (q := (i, v)) e] at hw
    refine h.2.2 (j, w) (List.mem_cons_of_mem _ (List.mem_filter.mpr ⟨zlist_mem hw, ?_⟩))
    have h2 : ¬ (j + 1 = i ∧ w.category = 2) := fun q => zok1_cat hok q.1 hw q.2
    simp only [Bool.and_eq_true, Bool.not_eq_true', beq_eq_false_iff_ne, ne_eq, Bool.and_eq_false_iff]
    refine ⟨fun q => e q.symm, ?_⟩
    by_cases a : j + 1 = i
    · exact Or.inr (fun q => h2 ⟨a, q⟩)
    · exact Or.inl a
theorem zstore2 {ls' : Array Slot} {nL i : Nat} {v : Value} {lv : List (Nat × Value)} (hok : zok1 lv i = true) (hno : zget lv (i + 1) = none) (h : lv_has ls' nL ((i, v) :: (zlist lv).filter (fun q => !(q.1 == i) && (!(q.1 == i + 1) && !(q.1 + 1 == i && q.2.category == 2))))) : zlv ls' nL ((i, v) :: lv) := by
  refine ⟨h.1, h.2.1, fun j w hw => ?_⟩
  by_cases e : i = j
  · subst e
    rw [zget_cons_eq] at hw
    cases hw
    exact h.2.2 (i, v) List.mem_cons_self
  · rw [zget_cons_ne (q := (i, v)) e] at hw
    refine h.2.2 (j, w) (List.mem_cons_of_mem _ (List.mem_filter.mpr ⟨zlist_mem hw, ?_⟩))
    have h2 : ¬ (j + 1 = i ∧ w.category = 2) := fun q => zok1_cat hok q.1 hw q.2
    have h3 : ¬ j = i + 1 := fun q => by subst q; rw [hno] at hw; cases hw
    simp only [Bool.and_eq_true, Bool.not_eq_true', beq_eq_false_iff_ne, ne_eq, Bool.and_eq_false_iff]
    refine ⟨fun q => e q.symm, h3, ?_⟩
    by_cases a : j + 1 = i
    · exact Or.inr (fun q => h2 ⟨a, q⟩)
    · exact Or.inl a
/-- the list lv' says no more than lv -/
def zsub : List (Nat × Value) → List (Nat × Value) → Prop
  | [], _ => True
  | q :: r, lv => zget lv q.1 = some q.2 ∧ zsub r lv
theorem zsub_get {lv : List (Nat × Value)} : ∀ (l : List (Nat × Value)), zsub l lv → ∀ i v, zget l i = some v → zget lv i = some v := by
  intro l
  induction l with
  | nil => intro _ i v h; simp [zget] at h
  | cons q r ih =>
    intro h i v hv
    by_cases e : q.1 = i
    · subst e
      have : zget ((q.1, q.2) :: r) q.1 = some q.2 := zget_cons_eq
      rw [show q = (q.1, q.2) from rfl] at hv
      rw [this] at hv
      cases hv
      exact h.1
    · rw [zget_cons_ne e] at hv
      exact ih h.2 i v hv
/-- a method's end -/
def zQ (x : zCx) (b : Bool) (post : Option Value → zSt → Prop) : Array Value → State → Outcome → State → Prop := fun _ st oc t => (∃ (r : Option Value) (S : zSt), oc = .returned r ∧ post r S ∧ va_P x.2.1 vwCl (zwd x b S) t.heap) ∧ va_F (zA x b) st t
/-- a method's contract -/
def zC (x : zCx) (b : Bool) (M : zM) (as : List Value) (S : zSt) (post : Option Value → zSt → Prop) : Prop :=
  Met x.1 M.1 [.code M.1 M.2.1 M.2.2.1 M.2.2.2.1] (zrm M.2.2.2.2) (va_Pc as (fun U => va_P x.2.1 vwCl (zwd x b S) U.heap ∧ zEnv x b U)) (zQ x b post) 0 0 (zA x b)
/-- a method that answers r and leaves S' -/
def zF (x : zCx) (b : Bool) (M : zM) (as : List Value) (S : zSt) (r : Option Value) (S' : zSt) : Prop := zC x b M as S (fun q T => q = r ∧ T = S')
def zFx (x : zCx) (b : Bool) (M : zM) (p : Program) (s : State) (m : MethodId) (meth : Method) (c : Code) : Prop :=
  p.tables.exec = Jvm.exec ∧ c.code = M.2.1 ∧ c.maxLocals = M.2.2.1 ∧ s.vm.findClass M.1.cls = some m.cls ∧ meth.sig.returnType = M.2.2.2.1 ∧ meth.locks = false ∧ zEnv x b s
/-- the walk -/
def zZ (x : zCx) (b : Bool) (M : zM) (post : Option Value → zSt → Prop) (pc : Nat) (lv : List (Nat × Value)) (st : List Value) (S : zSt) : Prop :=
  ∀ (p : Program) (e : Env) (s : State) (m : MethodId) (args : Array Value) (below : List Frame) (meth : Method) (c : Code) (H : Heap) (locs : List Loc) (ls : Array Slot),
    zFx x b M p s m meth c → va_P x.2.1 vwCl (zwd x b S) H → va_S (zA x b) s.heap H locs → zlv ls M.2.2.1 lv →
    W p x.1 e (zrm M.2.2.2.2) s m args below meth c H locs 0 0 (MQ below (zQ x b post) args s 0 0 (zA x b)) (F0 m pc ls st)

section ZROWS
variable {x : zCx} {b : Bool} {M : zM} {post : Option Value → zSt → Prop} {pc : Nat} {lv : List (Nat × Value)} {st : List Value} {S : zSt}
theorem zC_of {as : List Value} (hy : plainName M.1.cls = true) (hlen : (lg_sl as).length ≤ M.2.2.1) (k : zZ x b M post 0 (lv_args 0 as) [] S) : zC x b M as S post := by
  refine Met.ofW (cc := M.2.1) (maxL := M.2.2.1) (ret := M.2.2.2.1) hy rfl ?_
  intro p e s m args below meth c s₁ B hml hv
  obtain ⟨rfl, hP, hE⟩ := hv
  rw [lg_entry_eq]
  exact k p e s m _ below meth c s.heap [] _ ⟨B.exec, B.bytes, hml, findClass_of_methodNamed B.named, B.returns, B.notSynchronized, hE⟩ hP va_S.rf (zlv_of (lv_entry as hlen))
theorem zC_mono {as : List Value} {post' : Option Value → zSt → Prop} (h : zC x b M as S post) (hp : ∀ r T, post r T → post' r T) : zC x b M as S post' := by
  intro p e a1 a2 a3 s m args below a4 a5 a6 a7
  obtain ⟨t, o, c1, c2, c3, ⟨⟨⟨r, T, d1, d2, d3⟩, d4⟩, d5⟩⟩ := h p e a1 a2 a3 s m args below a4 a5 a6 a7
  exact ⟨t, o, c1, c2, c3, ⟨⟨⟨r, T, d1, hp r T d2, d3⟩, d4⟩, d5⟩⟩
/-- other locals, fewer -/
theorem zlvs {lv' : List (Nat × Value)} (h : zsub lv' lv) (k : zZ x b M post pc lv' st S) : zZ x b M post pc lv st S :=
  fun p e s m args below meth c H locs ls F hP hS hl => k p e s m args below meth c H locs ls F hP hS ⟨hl.1, hl.2.1, fun i v hv => hl.2.2 i v (zsub_get lv' h i v hv)⟩
theorem zeq {pc' : Nat} {lv' : List (Nat × Value)} {st' : List Value} {S' : zSt} (h1 : pc' = pc) (h2 : lv' = lv) (h3 : st' = st) (h4 : S' = S) (k : zZ x b M post pc' lv' st' S') : zZ x b M post pc lv st S := by
  subst h1; subst h2; subst h3; subst h4; exact k

theorem ziconst {n : Int} {v : Int32} (d : decode M.2.1 pc = .ok (.iconst n, 1)) (hv : Int32.ofInt n = v) (k : zZ x b M post (pc + 1) lv (.int v :: st) S) : zZ x b M post pc lv st S :=
  fun p e s m args below meth c H locs ls F hP hS hl => lv_iconst F.1 F.2.1 d hv (k p e s m args below meth c H locs ls F hP hS hl)
theorem zbipush {n : Int} {v : Int32} (d : decode M.2.1 pc = .ok (.bipush n, 2)) (hv : (Int8.ofInt n).toInt32 = v) (k : zZ x b M post (pc + 2) lv (.int v :: st) S) : zZ x b M post pc lv st S :=
  fun p e s m args below meth c H locs ls F hP hS hl => lv_bipush F.1 F.2.1 d hv (k p e s m args below meth c H locs ls F hP hS hl)
theorem zsipush {n : Int} {v : Int32} (d : decode M.2.1 pc = .ok (.sipush n, 3)) (hv : (Int16.ofInt n).toInt32 = v) (k : zZ x b M post (pc + 3) lv (.int v :: st) S) : zZ x b M post pc lv st S :=
  fun p e s m args below meth c H locs ls F hP hS hl => lv_sipush F.1 F.2.1 d hv (k p e s m args below meth c H locs ls F hP hS hl)
theorem zlconst {n : Fin 2} {v : Int64} (d : decode M.2.1 pc = .ok (.lconst n, 1)) (hv : Int64.ofNat (n : Nat) = v) (k : zZ x b M post (pc + 1) lv (.long v :: st) S) : zZ x b M post pc lv st S :=
  fun p e s m args below meth c H locs ls F hP hS hl => lv_lconst F.1 F.2.1 d hv (k p e s m args below meth c H locs ls F hP hS hl)
theorem ziload_n {n : Fin 4} {v : Int32} (d : decode M.2.1 pc = .ok (.iload_n n, 1)) (hv : zget lv n.val = some (.int v)) (k : zZ x b M post (pc + 1) lv (.int v :: st) S) : zZ x b M post pc lv st S :=
  fun p e s m args below meth c H locs ls F hP hS hl => lv_iload_n F.1 F.2.1 d rfl (hl.2.2 _ _ hv) (k p e s m args below meth c H locs ls F hP hS hl)
theorem ziload {i : Nat} {v : Int32} (d : decode M.2.1 pc = .ok (.iload i, 2)) (hv : zget lv i = some (.int v)) (k : zZ x b M post (pc + 2) lv (.int v :: st) S) : zZ x b M post pc lv st S :=
  fun p e s m args below meth c H locs ls F hP hS hl => lv_iload F.1 F.2.1 d (hl.2.2 _ _ hv) (k p e s m args below meth c H locs ls F hP hS hl)
theorem zlload_n {n : Fin 4} {v : Int64} (d : decode M.2.1 pc = .ok (.lload_n n, 1)) (hv : zget lv n.val = some (.long v)) (k : zZ x b M post (pc + 1) lv (.long v :: st) S) : zZ x b M post pc lv st S :=
  fun p e s m args below meth c H locs ls F hP hS hl => lv_lload_n F.1 F.2.1 d rfl (hl.2.2 _ _ hv) (k p e s m args below meth c H locs ls F hP hS hl)
theorem zlload {i : Nat} {v : Int64} (d : decode M.2.1 pc = .ok (.lload i, 2)) (hv : zget lv i = some (.long v)) (k : zZ x b M post (pc + 2) lv (.long v :: st) S) : zZ x b M post pc lv st S :=
  fun p e s m args below meth c H locs ls F hP hS hl => lv_lload F.1 F.2.1 d (hl.2.2 _ _ hv) (k p e s m args below meth c H locs ls F hP hS hl)
theorem zaload_n {n : Fin 4} {v : Nat} (d : decode M.2.1 pc = .ok (.aload_n n, 1)) (hv : zget lv n.val = some (.ref v)) (k : zZ x b M post (pc + 1) lv (.ref v :: st) S) : zZ x b M post pc lv st S :=
  fun p e s m args below meth c H locs ls F hP hS hl => lv_aload_n F.1 F.2.1 d rfl (hl.2.2 _ _ hv) (k p e s m args below meth c H locs ls F hP hS hl)
theorem zaload {i : Nat} {v : Nat} (d : decode M.2.1 pc = .ok (.aload i, 2)) (hv : zget lv i = some (.ref v)) (k : zZ x b M post (pc + 2) lv (.ref v :: st) S) : zZ x b M post pc lv st S :=
  fun p e s m args below meth c H locs ls F hP hS hl => lv_aload F.1 F.2.1 d (hl.2.2 _ _ hv) (k p e s m args below meth c H locs ls F hP hS hl)
theorem zistore_n {n : Fin 4} {v : Int32} (d : decode M.2.1 pc = .ok (.istore_n n, 1)) (hn : n.val < M.2.2.1) (hok : zok1 lv n.val = true) (k : zZ x b M post (pc + 1) ((n.val, .int v) :: lv) st S) : zZ x b M post pc lv (.int v :: st) S :=
  fun p e s m args below meth c H locs ls F hP hS hl => lv_istore_n F.1 F.2.1 d rfl (zlist_of hl) hn rfl (fun ls' h' => k p e s m args below meth c H locs ls' F hP hS (zstore1 hok h'))
theorem zistore {i : Nat} {v : Int32} (d : decode M.2.1 pc = .ok (.istore i, 2)) (hn : i < M.2.2.1) (hok : zok1 lv i = true) (k : zZ x b M post (pc + 2) ((i, .int v) :: lv) st S) : zZ x b M post pc lv (.int v :: st) S :=
  fun p e s m args below meth c H locs ls F hP hS hl => lv_istore F.1 F.2.1 d (zlist_of hl) hn rfl (fun ls' h' => k p e s m args below meth c H locs ls' F hP hS (zstore1 hok h'))
theorem zastore_n {n : Fin 4} {v : Nat} (d : decode M.2.1 pc = .ok (.astore_n n, 1)) (hn : n.val < M.2.2.1) (hok : zok1 lv n.val = true) (k : zZ x b M post (pc + 1) ((n.val, .ref v) :: lv) st S) : zZ x b M post pc lv (.ref v :: st) S :=
  fun p e s m args below meth c H locs ls F hP hS hl => lv_astore_n F.1 F.2.1 d rfl (zlist_of hl) hn rfl (fun ls' h' => k p e s m args below meth c H locs ls' F hP hS (zstore1 hok h'))
theorem zastore {i : Nat} {v : Nat} (d : decode M.2.1 pc = .ok (.astore i, 2)) (hn : i < M.2.2.1) (hok : zok1 lv i = true) (k : zZ x b M post (pc + 2) ((i, .ref v) :: lv) st S) : zZ x b M post pc lv (.ref v :: st) S :=
  fun p e s m args below meth c H locs ls F hP hS hl => lv_astore F.1 F.2.1 d (zlist_of hl) hn rfl (fun ls' h' => k p e s m args below meth c H locs ls' F hP hS (zstore1 hok h'))
theorem zlstore_n {n : Fin 4} {v : Int64} (d : decode M.2.1 pc = .ok (.lstore_n n, 1)) (hn : n.val + 1 < M.2.2.1) (hok : zok1 lv n.val = true) (hno : zget lv (n.val + 1) = none) (k : zZ x b M post (pc + 1) ((n.val, .long v) :: lv) st S) : zZ x b M post pc lv (.long v :: st) S :=
  fun p e s m args below meth c H locs ls F hP hS hl => lv_lstore_n F.1 F.2.1 d rfl (zlist_of hl) hn rfl (fun ls' h' => k p e s m args below meth c H locs ls' F hP hS (zstore2 hok hno h'))
theorem zlstore {i : Nat} {v : Int64} (d : decode M.2.1 pc = .ok (.lstore i, 2)) (hn : i + 1 < M.2.2.1) (hok : zok1 lv i = true) (hno : zget lv (i + 1) = none) (k : zZ x b M post (pc + 2) ((i, .long v) :: lv) st S) : zZ x b M post pc lv (.long v :: st) S :=
  fun p e s m args below meth c H locs ls F hP hS hl => lv_lstore F.1 F.2.1 d (zlist_of hl) hn rfl (fun ls' h' => k p e s m args below meth c H locs ls' F hP hS (zstore2 hok hno h'))
theorem ziinc {i : Nat} {n : Int} {v w : Int32} (d : decode M.2.1 pc = .ok (.iinc i n, 3)) (hv : zget lv i = some (.int v)) (hw : v + Int32.ofInt n = w) (hn : i < M.2.2.1) (hok : zok1 lv i = true) (k : zZ x b M post (pc + 3) ((i, .int w) :: lv) st S) : zZ x b M post pc lv st S := by
  intro p e s m args below meth c H locs ls F hP hS hl
  obtain ⟨kk, hk⟩ := List.getElem?_of_mem (zlist_mem hv)
  exact lv_iinc F.1 F.2.1 d (zlist_of hl) hk hw hn rfl (fun ls' h' => k p e s m args below meth c H locs ls' F hP hS (zstore1 hok h'))
theorem ziadd {u v : Int32} (d : decode M.2.1 pc = .ok (.iadd, 1)) (k : zZ x b M post (pc + 1) lv (.int (u + v) :: st) S) : zZ x b M post pc lv (.int v :: .int u :: st) S :=
  fun p e s m args below meth c H locs ls F hP hS hl => lv_iadd F.1 F.2.1 d (k p e s m args below meth c H locs ls F hP hS hl)
theorem zisub {u v : Int32} (d : decode M.2.1 pc = .ok (.isub, 1)) (k : zZ x b M post (pc + 1) lv (.int (u - v) :: st) S) : zZ x b M post pc lv (.int v :: .int u :: st) S :=
  fun p e s m args below meth c H locs ls F hP hS hl => lv_isub F.1 F.2.1 d (k p e s m args below meth c H locs ls F hP hS hl)
theorem zimul {u v : Int32} (d : decode M.2.1 pc = .ok (.imul, 1)) (k : zZ x b M post (pc + 1) lv (.int (u * v) :: st) S) : zZ x b M post pc lv (.int v :: .int u :: st) S :=
  fun p e s m args below meth c H locs ls F hP hS hl => lv_imul F.1 F.2.1 d (k p e s m args below meth c H locs ls F hP hS hl)
theorem ziand {u v : Int32} (d : decode M.2.1 pc = .ok (.iand, 1)) (k : zZ x b M post (pc + 1) lv (.int (u &&& v) :: st) S) : zZ x b M post pc lv (.int v :: .int u :: st) S :=
  fun p e s m args below meth c H locs ls F hP hS hl => lv_iand F.1 F.2.1 d (k p e s m args below meth c H locs ls F hP hS hl)
theorem zior {u v : Int32} (d : decode M.2.1 pc = .ok (.ior, 1)) (k : zZ x b M post (pc + 1) lv (.int (u ||| v) :: st) S) : zZ x b M post pc lv (.int v :: .int u :: st) S :=
  fun p e s m args below meth c H locs ls F hP hS hl => lv_ior F.1 F.2.1 d (k p e s m args below meth c H locs ls F hP hS hl)
theorem zixor {u v : Int32} (d : decode M.2.1 pc = .ok (.ixor, 1)) (k : zZ x b M post (pc + 1) lv (.int (u ^^^ v) :: st) S) : zZ x b M post pc lv (.int v :: .int u :: st) S :=
  fun p e s m args below meth c H locs ls F hP hS hl => lv_ixor F.1 F.2.1 d (k p e s m args below meth c H locs ls F hP hS hl)
theorem zishl {u v : Int32} (d : decode M.2.1 pc = .ok (.ishl, 1)) (k : zZ x b M post (pc + 1) lv (.int (u <<< (v &&& 31)) :: st) S) : zZ x b M post pc lv (.int v :: .int u :: st) S :=
  fun p e s m args below meth c H locs ls F hP hS hl => lv_ishl F.1 F.2.1 d (k p e s m args below meth c H locs ls F hP hS hl)
theorem zishr {u v : Int32} (d : decode M.2.1 pc = .ok (.ishr, 1)) (k : zZ x b M post (pc + 1) lv (.int (u >>> (v &&& 31)) :: st) S) : zZ x b M post pc lv (.int v :: .int u :: st) S :=
  fun p e s m args below meth c H locs ls F hP hS hl => lv_ishr F.1 F.2.1 d (k p e s m args below meth c H locs ls F hP hS hl)
theorem zladd {u v : Int64} (d : decode M.2.1 pc = .ok (.ladd, 1)) (k : zZ x b M post (pc + 1) lv (.long (u + v) :: st) S) : zZ x b M post pc lv (.long v :: .long u :: st) S :=
  fun p e s m args below meth c H locs ls F hP hS hl => lv_ladd F.1 F.2.1 d (k p e s m args below meth c H locs ls F hP hS hl)
theorem zlsub {u v : Int64} (d : decode M.2.1 pc = .ok (.lsub, 1)) (k : zZ x b M post (pc + 1) lv (.long (u - v) :: st) S) : zZ x b M post pc lv (.long v :: .long u :: st) S :=
  fun p e s m args below meth c H locs ls F hP hS hl => lv_lsub F.1 F.2.1 d (k p e s m args below meth c H locs ls F hP hS hl)
theorem zlmul {u v : Int64} (d : decode M.2.1 pc = .ok (.lmul, 1)) (k : zZ x b M post (pc + 1) lv (.long (u * v) :: st) S) : zZ x b M post pc lv (.long v :: .long u :: st) S :=
  fun p e s m args below meth c H locs ls F hP hS hl => lv_lmul F.1 F.2.1 d (k p e s m args below meth c H locs ls F hP hS hl)
theorem zineg {u : Int32} (d : decode M.2.1 pc = .ok (.ineg, 1)) (k : zZ x b M post (pc + 1) lv (.int (-u) :: st) S) : zZ x b M post pc lv (.int u :: st) S :=
  fun p e s m args below meth c H locs ls F hP hS hl => lv_ineg F.1 F.2.1 d (k p e s m args below meth c H locs ls F hP hS hl)
theorem zidiv {u v : Int32} (d : decode M.2.1 pc = .ok (.idiv, 1)) (hne : ¬ v = 0) (k : zZ x b M post (pc + 1) lv (.int (u / v) :: st) S) : zZ x b M post pc lv (.int v :: .int u :: st) S :=
  fun p e s m args below meth c H locs ls F hP hS hl => lv_idiv F.1 F.2.1 d hne (k p e s m args below meth c H locs ls F hP hS hl)
theorem zirem {u v : Int32} (d : decode M.2.1 pc = .ok (.irem, 1)) (hne : ¬ v = 0) (k : zZ x b M post (pc + 1) lv (.int (u - u / v * v) :: st) S) : zZ x b M post pc lv (.int v :: .int u :: st) S :=
  fun p e s m args below meth c H locs ls F hP hS hl => lv_irem F.1 F.2.1 d hne (k p e s m args below meth c H locs ls F hP hS hl)
theorem zldiv {u v : Int64} (d : decode M.2.1 pc = .ok (.ldiv, 1)) (hne : ¬ v = 0) (k : zZ x b M post (pc + 1) lv (.long (u / v) :: st) S) : zZ x b M post pc lv (.long v :: .long u :: st) S :=
  fun p e s m args below meth c H locs ls F hP hS hl => lv_ldiv F.1 F.2.1 d hne (k p e s m args below meth c H locs ls F hP hS hl)
theorem zlrem {u v : Int64} (d : decode M.2.1 pc = .ok (.lrem, 1)) (hne : ¬ v = 0) (k : zZ x b M post (pc + 1) lv (.long (u - u / v * v) :: st) S) : zZ x b M post pc lv (.long v :: .long u :: st) S :=
  fun p e s m args below meth c H locs ls F hP hS hl => lv_lrem F.1 F.2.1 d hne (k p e s m args below meth c H locs ls F hP hS hl)
theorem zi2l {u : Int32} (d : decode M.2.1 pc = .ok (.i2l, 1)) (k : zZ x b M post (pc + 1) lv (.long u.toInt64 :: st) S) : zZ x b M post pc lv (.int u :: st) S :=
  fun p e s m args below meth c H locs ls F hP hS hl => lv_i2l F.1 F.2.1 d rfl (k p e s m args below meth c H locs ls F hP hS hl)
theorem zl2i {u : Int64} (d : decode M.2.1 pc = .ok (.l2i, 1)) (k : zZ x b M post (pc + 1) lv (.int u.toInt32 :: st) S) : zZ x b M post pc lv (.long u :: st) S :=
  fun p e s m args below meth c H locs ls F hP hS hl => lv_l2i F.1 F.2.1 d rfl (k p e s m args below meth c H locs ls F hP hS hl)
theorem zi2c {u : Int32} (d : decode M.2.1 pc = .ok (.i2c, 1)) (k : zZ x b M post (pc + 1) lv (.int (u.toUInt32 % 65536).toInt32 :: st) S) : zZ x b M post pc lv (.int u :: st) S :=
  fun p e s m args below meth c H locs ls F hP hS hl => lv_i2c F.1 F.2.1 d rfl (k p e s m args below meth c H locs ls F hP hS hl)
theorem zlcmp {u v : Int64} (d : decode M.2.1 pc = .ok (.lcmp, 1)) (k : zZ x b M post (pc + 1) lv (.int (lg_cmp u v) :: st) S) : zZ x b M post pc lv (.long v :: .long u :: st) S :=
  fun p e s m args below meth c H locs ls F hP hS hl => W.lcmp F.1 F.2.1 d (k p e s m args below meth c H locs ls F hP hS hl)
theorem zdup {u : Value} (d : decode M.2.1 pc = .ok (.dup, 1)) (hu : u.category = 1) (k : zZ x b M post (pc + 1) lv (u :: u :: st) S) : zZ x b M post pc lv (u :: st) S :=
  fun p e s m args below meth c H locs ls F hP hS hl => lv_dup F.1 F.2.1 d hu (k p e s m args below meth c H locs ls F hP hS hl)
theorem zpop {u : Value} (d : decode M.2.1 pc = .ok (.pop, 1)) (hu : u.category = 1) (k : zZ x b M post (pc + 1) lv st S) : zZ x b M post pc lv (u :: st) S :=
  fun p e s m args below meth c H locs ls F hP hS hl => lv_pop F.1 F.2.1 d hu (k p e s m args below meth c H locs ls F hP hS hl)
theorem zdup2_11 {u v : Value} (d : decode M.2.1 pc = .ok (.dup2, 1)) (hu : u.category = 1) (hv : v.category = 1) (k : zZ x b M post (pc + 1) lv (u :: v :: u :: v :: st) S) : zZ x b M post pc lv (u :: v :: st) S :=
  fun p e s m args below meth c H locs ls F hP hS hl => lv_dup2_11 F.1 F.2.1 d hu hv (k p e s m args below meth c H locs ls F hP hS hl)
theorem zif_eq {u : Int32} {off : Int} {tgt : Nat} (d : decode M.2.1 pc = .ok (.ifCond .eq off, 3)) (ht : (pc : Int) + off = (tgt : Int)) (kt : u = 0 → zZ x b M post tgt lv st S) (kf : ¬ u = 0 → zZ x b M post (pc + 3) lv st S) : zZ x b M post pc lv (.int u :: st) S :=
  fun p e s m args below meth c H locs ls F hP hS hl => lv_if_eq F.1 F.2.1 d ht (fun h => kt h p e s m args below meth c H locs ls F hP hS hl) (fun h => kf h p e s m args below meth c H locs ls F hP hS hl)
theorem zicmp_eq {u v : Int32} {off : Int} {tgt : Nat} (d : decode M.2.1 pc = .ok (.if_icmp .eq off, 3)) (ht : (pc : Int) + off = (tgt : Int)) (kt : u = v → zZ x b M post tgt lv st S) (kf : ¬ u = v → zZ x b M post (pc + 3) lv st S) : zZ x b M post pc lv (.int v :: .int u :: st) S :=
  fun p e s m args below meth c H locs ls F hP hS hl => lv_icmp_eq F.1 F.2.1 d ht (fun h => kt h p e s m args below meth c H locs ls F hP hS hl) (fun h => kf h p e s m args below meth c H locs ls F hP hS hl)
theorem zif_ne {u : Int32} {off : Int} {tgt : Nat} (d : decode M.2.1 pc = .ok (.ifCond .ne off, 3)) (ht : (pc : Int) + off = (tgt : Int)) (kt : ¬ u = 0 → zZ x b M post tgt lv st S) (kf : u = 0 → zZ x b M post (pc + 3) lv st S) : zZ x b M post pc lv (.int u :: st) S :=
  fun p e s m args below meth c H locs ls F hP hS hl => lv_if_ne F.1 F.2.1 d ht (fun h => kt h p e s m args below meth c H locs ls F hP hS hl) (fun h => kf h p e s m args below meth c H locs ls F hP hS hl)
theorem zicmp_ne {u v : Int32} {off : Int} {tgt : Nat} (d : decode M.2.1 pc = .ok (.if_icmp .ne off, 3)) (ht : (pc : Int) + off = (tgt : Int)) (kt : ¬ u = v → zZ x b M post tgt lv st S) (kf : u = v → zZ x b M post (pc + 3) lv st S) : zZ x b M post pc lv (.int v :: .int u :: st) S :=
  fun p e s m args below meth c H locs ls F hP hS hl => lv_icmp_ne F.1 F.2.1 d ht (fun h => kt h p e s m args below meth c H locs ls F hP hS hl) (fun h => kf h p e s m args below meth c H locs ls F hP hS hl)
theorem zif_lt {u : Int32} {off : Int} {tgt : Nat} (d : decode M.2.1 pc = .ok (.ifCond .lt off, 3)) (ht : (pc : Int) + off = (tgt : Int)) (kt : u < 0 → zZ x b M post tgt lv st S) (kf : ¬ u < 0 → zZ x b M post (pc + 3) lv st S) : zZ x b M post pc lv (.int u :: st) S :=
  fun p e s m args below meth c H locs ls F hP hS hl => lv_if_lt F.1 F.2.1 d ht (fun h => kt h p e s m args below meth c H locs ls F hP hS hl) (fun h => kf h p e s m args below meth c H locs ls F hP hS hl)
theorem zicmp_lt {u v : Int32} {off : Int} {tgt : Nat} (d : decode M.2.1 pc = .ok (.if_icmp .lt off, 3)) (ht : (pc : Int) + off = (tgt : Int)) (kt : u < v → zZ x b M post tgt lv st S) (kf : ¬ u < v → zZ x b M post (pc + 3) lv st S) : zZ x b M post pc lv (.int v :: .int u :: st) S :=
  fun p e s m args below meth c H locs ls F hP hS hl => lv_icmp_lt F.1 F.2.1 d ht (fun h => kt h p e s m args below meth c H locs ls F hP hS hl) (fun h => kf h p e s m args below meth c H locs ls F hP hS hl)
theorem zif_ge {u : Int32} {off : Int} {tgt : Nat} (d : decode M.2.1 pc = .ok (.ifCond .ge off, 3)) (ht : (pc : Int) + off = (tgt : Int)) (kt : 0 ≤ u → zZ x b M post tgt lv st S) (kf : ¬ 0 ≤ u → zZ x b M post (pc + 3) lv st S) : zZ x b M post pc lv (.int u :: st) S :=
  fun p e s m args below meth c H locs ls F hP hS hl => lv_if_ge F.1 F.2.1 d ht (fun h => kt h p e s m args below meth c H locs ls F hP hS hl) (fun h => kf h p e s m args below meth c H locs ls F hP hS hl)
theorem zicmp_ge {u v : Int32} {off : Int} {tgt : Nat} (d : decode M.2.1 pc = .ok (.if_icmp .ge off, 3)) (ht : (pc : Int) + off = (tgt : Int)) (kt : v ≤ u → zZ x b M post tgt lv st S) (kf : ¬ v ≤ u → zZ x b M post (pc + 3) lv st S) : zZ x b M post pc lv (.int v :: .int u :: st) S :=
  fun p e s m args below meth c H locs ls F hP hS hl => lv_icmp_ge F.1 F.2.1 d ht (fun h => kt h p e s m args below meth c H locs ls F hP hS hl) (fun h => kf h p e s m args below meth c H locs ls F hP hS hl)
theorem zif_gt {u : Int32} {off : Int} {tgt : Nat} (d : decode M.2.1 pc = .ok (.ifCond .gt off, 3)) (ht : (pc : Int) + off = (tgt : Int)) (kt : 0 < u → zZ x b M post tgt lv st S) (kf : ¬ 0 < u → zZ x b M post (pc + 3) lv st S) : zZ x b M post pc lv (.int u :: st) S :=
  fun p e s m args below meth c H locs ls F hP hS hl => lv_if_gt F.1 F.2.1 d ht (fun h => kt h p e s m args below meth c H locs ls F hP hS hl) (fun h => kf h p e s m args below meth c H locs ls F hP hS hl)
theorem zicmp_gt {u v : Int32} {off : Int} {tgt : Nat} (d : decode M.2.1 pc = .ok (.if_icmp .gt off, 3)) (ht : (pc : Int) + off = (tgt : Int)) (kt : v < u → zZ x b M post tgt lv st S) (kf : ¬ v < u → zZ x b M post (pc + 3) lv st S) : zZ x b M post pc lv (.int v :: .int u :: st) S :=
  fun p e s m args below meth c H locs ls F hP hS hl => lv_icmp_gt F.1 F.2.1 d ht (fun h => kt h p e s m args below meth c H locs ls F hP hS hl) (fun h => kf h p e s m args below meth c H locs ls F hP hS hl)
theorem zif_le {u : Int32} {off : Int} {tgt : Nat} (d : decode M.2.1 pc = .ok (.ifCond .le off, 3)) (ht : (pc : Int) + off = (tgt : Int)) (kt : u ≤ 0 → zZ x b M post tgt lv st S) (kf : ¬ u ≤ 0 → zZ x b M post (pc + 3) lv st S) : zZ x b M post pc lv (.int u :: st) S :=
  fun p e s m args below meth c H locs ls F hP hS hl => lv_if_le F.1 F.2.1 d ht (fun h => kt h p e s m args below meth c H locs ls F hP hS hl) (fun h => kf h p e s m args below meth c H locs ls F hP hS hl)
theorem zicmp_le {u v : Int32} {off : Int} {tgt : Nat} (d : decode M.2.1 pc = .ok (.if_icmp .le off, 3)) (ht : (pc : Int) + off = (tgt : Int)) (kt : u ≤ v → zZ x b M post tgt lv st S) (kf : ¬ u ≤ v → zZ x b M post (pc + 3) lv st S) : zZ x b M post pc lv (.int v :: .int u :: st) S :=
  fun p e s m args below meth c H locs ls F hP hS hl => lv_icmp_le F.1 F.2.1 d ht (fun h => kt h p e s m args below meth c H locs ls F hP hS hl) (fun h => kf h p e s m args below meth c H locs ls F hP hS hl)
theorem zgoto {off : Int} {tgt : Nat} (d : decode M.2.1 pc = .ok (.goto off, 3)) (ht : (pc : Int) + off = (tgt : Int)) (k : zZ x b M post tgt lv st S) : zZ x b M post pc lv st S :=
  fun p e s m args below meth c H locs ls F hP hS hl => lv_goto F.1 F.2.1 d ht (k p e s m args below meth c H locs ls F hP hS hl)
theorem zldc {idx : Nat} {v : Int32} (d : decode M.2.1 pc = .ok (.ldc idx, 2)) (hw : Cond.constant M.1.cls idx v ∈ wsL_law) (k : zZ x b M post (pc + 2) lv (.int v :: st) S) : zZ x b M post pc lv st S :=
  fun p e s m args below meth c H locs ls F hP hS hl => lv_ldc F.1 F.2.1 F.2.2.2.1 (F.2.2.2.2.2.2.2.1 _ hw _) d (k p e s m args below meth c H locs ls F hP hS hl)
theorem zldc2 {idx : Nat} {v : Int64} (d : decode M.2.1 pc = .ok (.ldc2_w idx, 3)) (hw : Cond.constantLong M.1.cls idx v ∈ wsL_law) (k : zZ x b M post (pc + 3) lv (.long v :: st) S) : zZ x b M post pc lv st S :=
  fun p e s m args below meth c H locs ls F hP hS hl => lv_ldc2 F.1 F.2.1 F.2.2.2.1 (F.2.2.2.2.2.2.2.1 _ hw _) d (k p e s m args below meth c H locs ls F hP hS hl)
theorem zlookup {dflt : Int} {ps : Array (Int × Int)} {len : Nat} {u : Int32} {off : Int} {tgt : Nat} (d : decode M.2.1 pc = .ok (.lookupswitch dflt ps, len)) (hp : (ps.toList.zip (ps.toList.drop 1)).all (fun (a, next) => a.1 < next.1) = true) (ho : Op.lookupswitch.offset ps.toList dflt u.toInt = off) (ht : (pc : Int) + off = (tgt : Int)) (k : zZ x b M post tgt lv st S) : zZ x b M post pc lv (.int u :: st) S :=
  fun p e s m args below meth c H locs ls F hP hS hl => lv_lookup F.1 F.2.1 d hp ho ht (k p e s m args below meth c H locs ls F hP hS hl)
theorem ztableOut {dflt lo hi : Int} {offs : Array Int} {len : Nat} {u : Int32} {tgt : Nat} (d : decode M.2.1 pc = .ok (.tableswitch dflt lo hi offs, len)) (h : u.toInt < lo ∨ hi < u.toInt) (ht : (pc : Int) + dflt = (tgt : Int)) (k : zZ x b M post tgt lv st S) : zZ x b M post pc lv (.int u :: st) S :=
  fun p e s m args below meth c H locs ls F hP hS hl => lv_tableOut F.1 F.2.1 d h ht (k p e s m args below meth c H locs ls F hP hS hl)
theorem ztableIn {dflt lo hi : Int} {offs : Array Int} {len : Nat} {u : Int32} {off : Int} {tgt : Nat} (d : decode M.2.1 pc = .ok (.tableswitch dflt lo hi offs, len)) (h1 : ¬ u.toInt < lo) (h2 : ¬ hi < u.toInt) (ho : offs[(u.toInt - lo).toNat]? = some off) (ht : (pc : Int) + off = (tgt : Int)) (k : zZ x b M post tgt lv st S) : zZ x b M post pc lv (.int u :: st) S :=
  fun p e s m args below meth c H locs ls F hP hS hl => lv_tableIn F.1 F.2.1 d h1 h2 ho ht (k p e s m args below meth c H locs ls F hP hS hl)
theorem zQ_of {x : zCx} {b : Bool} {post : Option Value → zSt → Prop} {S : zSt} {s t : State} {H : Heap} {locs : List Loc} {args : Array Value} {r : Option Value} (hP : va_P x.2.1 vwCl (zwd x b S) H) (hS : va_S (zA x b) s.heap H locs) (hp : post r S) (ht : t.heap = H) : zQ x b post args s (.returned r) t :=
  ⟨⟨r, S, rfl, hp, by rw [ht]; exact hP⟩, hS.F ht⟩
theorem zireturn {v : Int32} {ty : FieldType} (d : decode M.2.1 pc = .ok (.ireturn, 1)) (hr : M.2.2.2.1 = some ty) (hn : narrow ty (.int v) = .int v) (hp : post (some (.int v)) S) : zZ x b M post pc lv [.int v] S :=
  fun p e s m args below meth c H locs ls F hP hS hl => W.zret (ty := ty) F.1 F.2.1 (F.2.2.2.2.1.trans hr) hn (fun t ht _ => zQ_of hP hS hp ht) hS.2.2 d F.2.2.2.2.2.1
theorem zlreturn {v : Int64} (d : decode M.2.1 pc = .ok (.lreturn, 1)) (hr : M.2.2.2.1 = some .long) (hp : post (some (.long v)) S) : zZ x b M post pc lv [.long v] S :=
  fun p e s m args below meth c H locs ls F hP hS hl => W.lret F.1 F.2.1 (F.2.2.2.2.1.trans hr) (fun t ht _ => zQ_of hP hS hp ht) hS.2.2 d (hlocks := F.2.2.2.2.2.1)
theorem zreturn (d : decode M.2.1 pc = .ok (.return_, 1)) (hr : M.2.2.2.1 = none) (hp : post none S) : zZ x b M post pc lv [] S :=
  fun p e s m args below meth c H locs ls F hP hS hl => W.vret F.1 F.2.1 (F.2.2.2.2.1.trans hr) (fun t ht _ => zQ_of hP hS hp ht) hS.2.2 d F.2.2.2.2.2.1

/-- arrays of ints -/
theorem ziaload {k n : Nat} {i : Int32} (d : decode M.2.1 pc = .ok (.iaload, 1)) (hk : k < zN b) (hl0 : zlay b k = .inl n) (hin : vp_in i n) (kk : zZ x b M post (pc + 1) lv (.int (S.1 k i.toNatClampNeg) :: st) S) : zZ x b M post pc lv (.int i :: .ref (zad x k) :: st) S :=
  fun p e s m args below meth c H locs ls F hP hS hl => va_iald F.1 F.2.1 F.2.2.2.2.2.2.1 hP k 0 (by rw [zwd_get hk, zcell_arr hl0]) rfl hin d (kk p e s m args below meth c H locs ls F hP hS hl)
theorem zset_arr {k n i : Nat} {v : Int32} (hl0 : zlay b k = .inl n) : (zwd x b S).set k (zad x k, .inl (x.2.2.1, n, .inl (upd (S.1 k) i v))) = zwd x b (u2 S.1 k i v, S.2) := by
  have e : zcell x b (u2 S.1 k i v, S.2) k = .inl (x.2.2.1, n, .inl (upd (S.1 k) i v)) := by
    rw [zcell_arr hl0]
    have : (u2 S.1 k i v) k = upd (S.1 k) i v := by funext j; simp [u2, upd]
    simp only [this]
  rw [← e]
  refine zwd_set (fun j hj => ?_)
  have : (u2 S.1 k i v) j = S.1 j := by funext a; simp [u2, hj]
  simp only [zcell, this]
theorem ziastore {k n : Nat} {i v : Int32} (d : decode M.2.1 pc = .ok (.iastore, 1)) (hk : k < zN b) (hl0 : zlay b k = .inl n) (hin : vp_in i n) (kk : zZ x b M post (pc + 1) lv st (u2 S.1 k i.toNatClampNeg v, S.2)) : zZ x b M post pc lv (.int v :: .int i :: .ref (zad x k) :: st) S := by
  intro p e s m args below meth c H locs ls F hP hS hl
  refine va_iast F.1 F.2.1 F.2.2.2.2.2.2.1 hP (zD F.2.2.2.2.2.2 S) hS k 0 (by rw [zwd_get hk, zcell_arr hl0]) rfl hin d (fun H1 locs1 hP1 _ hS1 => ?_)
  rw [zset_arr hl0] at hP1
  exact kk p e s m args below meth c H1 locs1 ls F hP1 hS1 hl
/-- the row of kinds -/
theorem zaaload {k q : Nat} {ps : List Nat} {i : Int32} (d : decode M.2.1 pc = .ok (.aaload, 1)) (hk : k < zN b) (hl0 : zlay b k = .inr (.inr ps)) (hin : vp_in i ps.length) (hq : ps[i.toNatClampNeg]? = some q) (kk : zZ x b M post (pc + 1) lv (.ref (zad x q) :: st) S) : zZ x b M post pc lv (.int i :: .ref (zad x k) :: st) S := by
  intro p e s m args below meth c H locs ls F hP hS hl
  refine va_aldq F.1 F.2.1 F.2.2.2.2.2.2.1 hP k 1 (by rw [zwd_get hk, zcell_refs hl0]) rfl hin d ?_
  have e2 : va_rf ((ps[i.toNatClampNeg]?).map (zad x)) = .ref (zad x q) := by rw [hq]; rfl
  rw [e2]
  exact kk p e s m args below meth c H locs ls F hP hS hl
/-- fields -/
theorem zgetr {k j q ci Nf idx : Nat} {fs : List (Option Nat)} {C : String} {T : u_T} (d : decode M.2.1 pc = .ok (.getfield idx, 3)) (hk : k < zN b) (hl0 : zlay b k = .inr (.inl (ci, fs))) (hc : vwCl[ci]? = some (C, T, Nf)) (hin : ∀ w ∈ u_ws C T Nf, w ∈ wsL_law) (hj : fs[j]? = some (some q)) (hjn : j < Nf) (hw : Cond.fieldLink M.1.cls idx (T j).1 (T j).2.1 (T j).2.2.1 ∈ wsL_law) (kk : zZ x b M post (pc + 3) lv (.ref (zad x q) :: st) S) : zZ x b M post pc lv (.ref (zad x k) :: st) S :=
  fun p e s m args below meth c H locs ls F hP hS hl => va_get (Ts := wsL_law) F.1 F.2.1 (fun w h => F.2.2.2.2.2.2.2.1 w h _) hin F.2.2.2.1 F.2.2.2.2.2.2.1 hP k (by rw [zwd_get hk, zcell_obj hl0]) hc j hjn (F.2.2.2.2.2.2.2.1 _ hw _) (fun _ h => h) (zfs_ref fs 0 j hj) d (kk p e s m args below meth c H locs ls F hP hS hl)
theorem zgeti {k j ci Nf idx : Nat} {fs : List (Option Nat)} {C : String} {T : u_T} (d : decode M.2.1 pc = .ok (.getfield idx, 3)) (hk : k < zN b) (hl0 : zlay b k = .inr (.inl (ci, fs))) (hc : vwCl[ci]? = some (C, T, Nf)) (hin : ∀ w ∈ u_ws C T Nf, w ∈ wsL_law) (hj : fs[j]? = some none) (hjn : j < Nf) (hw : Cond.fieldLink M.1.cls idx (T j).1 (T j).2.1 (T j).2.2.1 ∈ wsL_law) (kk : zZ x b M post (pc + 3) lv (.int (S.2 k j) :: st) S) : zZ x b M post pc lv (.ref (zad x k) :: st) S :=
  fun p e s m args below meth c H locs ls F hP hS hl => va_get (Ts := wsL_law) F.1 F.2.1 (fun w h => F.2.2.2.2.2.2.2.1 w h _) hin F.2.2.2.1 F.2.2.2.2.2.2.1 hP k (by rw [zwd_get hk, zcell_obj hl0]) hc j hjn (F.2.2.2.2.2.2.2.1 _ hw _) (fun _ h => h) (by have := zfs_int (ad := zad x) (g := S.2 k) fs 0 j hj; rw [Nat.zero_add] at this; exact this) d (kk p e s m args below meth c H locs ls F hP hS hl)
theorem zgetrN {k j q ci Nf idx : Nat} {fs : List (Option Nat)} {C host : String} {T : u_T} (d : decode M.2.1 pc = .ok (.getfield idx, 3)) (hk : k < zN b) (hl0 : zlay b k = .inr (.inl (ci, fs))) (hc : vwCl[ci]? = some (C, T, Nf)) (hin : ∀ w ∈ u_ws C T Nf, w ∈ wsL_law) (hj : fs[j]? = some (some q)) (hjn : j < Nf) (hw : Cond.fieldLinkNest M.1.cls idx (T j).1 (T j).2.1 (T j).2.2.1 host ∈ lw_tbl) (kk : zZ x b M post (pc + 3) lv (.ref (zad x q) :: st) S) : zZ x b M post pc lv (.ref (zad x k) :: st) S :=
  fun p e s m args below meth c H locs ls F hP hS hl => va_getN (Ts := wsL_law) F.1 F.2.1 (fun w h => F.2.2.2.2.2.2.2.1 w h _) hin F.2.2.2.1 F.2.2.2.2.2.2.1 hP k (by rw [zwd_get hk, zcell_obj hl0]) hc j hjn (va_Nw.use rfl (F.2.2.2.2.2.2.2.2.1 _ hw rfl)) (fun _ h => h) (zfs_ref fs 0 j hj) d (kk p e s m args below meth c H locs ls F hP hS hl)
theorem zgetiN {k j ci Nf idx : Nat} {fs : List (Option Nat)} {C host : String} {T : u_T} (d : decode M.2.1 pc = .ok (.getfield idx, 3)) (hk : k < zN b) (hl0 : zlay b k = .inr (.inl (ci, fs))) (hc : vwCl[ci]? = some (C, T, Nf)) (hin : ∀ w ∈ u_ws C T Nf, w ∈ wsL_law) (hj : fs[j]? = some none) (hjn : j < Nf) (hw : Cond.fieldLinkNest M.1.cls idx (T j).1 (T j).2.1 (T j).2.2.1 host ∈ lw_tbl) (kk : zZ x b M post (pc + 3) lv (.int (S.2 k j) :: st) S) : zZ x b M post pc lv (.ref (zad x k) :: st) S :=
  fun p e s m args below meth c H locs ls F hP hS hl => va_getN (Ts := wsL_law) F.1 F.2.1 (fun w h => F.2.2.2.2.2.2.2.1 w h _) hin F.2.2.2.1 F.2.2.2.2.2.2.1 hP k (by rw [zwd_get hk, zcell_obj hl0]) hc j hjn (va_Nw.use rfl (F.2.2.2.2.2.2.2.2.1 _ hw rfl)) (fun _ h => h) (by have := zfs_int (ad := zad x) (g := S.2 k) fs 0 j hj; rw [Nat.zero_add] at this; exact this) d (kk p e s m args below meth c H locs ls F hP hS hl)
theorem zset_fld {k j ci : Nat} {fs : List (Option Nat)} {v : Int32} (hl0 : zlay b k = .inr (.inl (ci, fs))) (hj : fs[j]? = some none) : (zwd x b S).set k (zad x k, .inr (ci, (zfs (zad x) (S.2 k) fs 0).set j (.int v))) = zwd x b (S.1, u2 S.2 k j v) := by
  have e : zcell x b (S.1, u2 S.2 k j v) k = .inr (ci, (zfs (zad x) (S.2 k) fs 0).set j (.int v)) := by
    rw [zcell_obj hl0, zfs_set fs 0 j hj]
    have : (u2 S.2 k j v) k = (fun i => if i = 0 + j then v else S.2 k i) := by funext i; simp [u2]
    simp only [this]
  rw [← e]
  refine zwd_set (fun i hi => ?_)
  have : (u2 S.2 k j v) i = S.2 i := by funext a; simp [u2, hi]
  simp only [zcell, this]
theorem zputi {k j ci Nf idx : Nat} {fs : List (Option Nat)} {C : String} {T : u_T} {ty : FieldType} {v : Int32} (d : decode M.2.1 pc = .ok (.putfield idx, 3)) (hk : k < zN b) (hl0 : zlay b k = .inr (.inl (ci, fs))) (hc : vwCl[ci]? = some (C, T, Nf)) (hin : ∀ w ∈ u_ws C T Nf, w ∈ wsL_law) (ty0 : Nat → FieldType) (hty : ∀ k, k < Nf → parseFieldDescriptor (T k).2.2.1 = some (ty0 k)) (hnm : ∀ a, a < Nf → ∀ b, b < Nf → a ≠ b → (T a).2.1 ≠ (T b).2.1) (hj : fs[j]? = some none) (hjn : j < Nf) (hw : Cond.fieldLink M.1.cls idx (T j).1 (T j).2.1 (T j).2.2.1 ∈ wsL_law) (hfin : (T j).2.2.2 = false) (hd : parseFieldDescriptor (T j).2.2.1 = some ty) (hn : narrow ty (.int v) = .int v) (hfit : fits ty (.int v) = true) (kk : zZ x b M post (pc + 3) lv st (S.1, u2 S.2 k j v)) : zZ x b M post pc lv (.int v :: .ref (zad x k) :: st) S := by
  intro p e s m args below meth c H locs ls F hP hS hl
  refine va_put (Ts := wsL_law) F.1 F.2.1 (fun w h => F.2.2.2.2.2.2.2.1 w h _) hin ty0 hty hnm F.2.2.2.1 F.2.2.2.2.2.2.1 hP (zD F.2.2.2.2.2.2 S) hS k (by rw [zwd_get hk, zcell_obj hl0]) hc j hjn (F.2.2.2.2.2.2.2.1 _ hw _) (fun _ h => h) hfin hd hn hfit (by rw [zfs_len]; exact (List.getElem?_eq_some_iff.mp hj).1) d (fun H1 locs1 hP1 _ hS1 => ?_)
  rw [zset_fld hl0 hj] at hP1
  exact kk p e s m args below meth c H1 locs1 ls F hP1 hS1 hl
theorem zputiN {k j ci Nf idx : Nat} {fs : List (Option Nat)} {C host : String} {T : u_T} {ty : FieldType} {v : Int32} (d : decode M.2.1 pc = .ok (.putfield idx, 3)) (hk : k < zN b) (hl0 : zlay b k = .inr (.inl (ci, fs))) (hc : vwCl[ci]? = some (C, T, Nf)) (hin : ∀ w ∈ u_ws C T Nf, w ∈ wsL_law) (ty0 : Nat → FieldType) (hty : ∀ k, k < Nf → parseFieldDescriptor (T k).2.2.1 = some (ty0 k)) (hnm : ∀ a, a < Nf → ∀ b, b < Nf → a ≠ b → (T a).2.1 ≠ (T b).2.1) (hj : fs[j]? = some none) (hjn : j < Nf) (hw : Cond.fieldLinkNest M.1.cls idx (T j).1 (T j).2.1 (T j).2.2.1 host ∈ lw_tbl) (hfin : (T j).2.2.2 = false) (hd : parseFieldDescriptor (T j).2.2.1 = some ty) (hn : narrow ty (.int v) = .int v) (hfit : fits ty (.int v) = true) (kk : zZ x b M post (pc + 3) lv st (S.1, u2 S.2 k j v)) : zZ x b M post pc lv (.int v :: .ref (zad x k) :: st) S := by
  intro p e s m args below meth c H locs ls F hP hS hl
  refine va_putN (Ts := wsL_law) F.1 F.2.1 (fun w h => F.2.2.2.2.2.2.2.1 w h _) hin ty0 hty hnm F.2.2.2.1 F.2.2.2.2.2.2.1 hP (zD F.2.2.2.2.2.2 S) hS k (by rw [zwd_get hk, zcell_obj hl0]) hc j hjn (va_Nw.use rfl (F.2.2.2.2.2.2.2.2.1 _ hw rfl)) (fun _ h => h) hfin hd hn hfit (by rw [zfs_len]; exact (List.getElem?_eq_some_iff.mp hj).1) d (fun H1 locs1 hP1 _ hS1 => ?_)
  rw [zset_fld hl0 hj] at hP1
  exact kk p e s m args below meth c H1 locs1 ls F hP1 hS1 hl
/-- a call, once it runs -/
theorem zrun {p : Program} {e : Env} {s : State} {m : MethodId} {args a : Array Value} {below : List Frame} {meth : Method} {c : Code} {H : Heap} {locs : List Loc} {ls : Array Slot} {R : Room} {post' : Option Value → zSt → Prop} {st0 rest : List Value} {Q : State → Prop} (hr : va_Run p x.1 e R s m args below meth c H locs 0 0 0 0 (F0 m pc ls st0) rest (zQ x b post' a) (zA x b)) (hS : va_S (zA x b) s.heap H locs)
    (kk : ∀ (r : Option Value) (S' : zSt) (H1 : Heap) (locs1 : List Loc), post' r S' → va_P x.2.1 vwCl (zwd x b S') H1 → va_S (zA x b) s.heap H1 locs1 → W p x.1 e R s m args below meth c H1 locs1 0 0 Q (F0 m (pc + 3) ls (r.toList ++ rest))) : W p x.1 e R s m args below meth c H locs 0 0 Q (F0 m pc ls st0) := by
  intro T hT X
  obtain ⟨v, st₀, t, T', L, h0, X', hL, e1, e2, ⟨⟨r, S', hv, hp, hb⟩, hz, hk⟩, st⟩ := hr T hT X
  cases hv
  rw [h0] at hz hk
  rw [← e1] at hb
  obtain ⟨t2, a1, b1⟩ := kk v S' T'.heap (locs ++ L) hp hb
    ⟨Nat.le_trans hS.1 (by rw [e1]; exact hz), fun q h1 h2 => by rw [e1, hk q (Nat.lt_of_lt_of_le h1 hS.1) h2]; exact hS.2.1 q h1 h2, fun q hq => by
      rcases List.mem_append.mp hq with h | h
      · exact hS.2.2 q h
      · exact hL q h⟩ T' rfl X'
  exact ⟨t2, st t2 a1, b1⟩
theorem zfit {d d' n : Nat} (h : d' < d) (hn : n ≤ 19) : (zrm d').frames + 1 ≤ (zrm d).frames ∧ 8 + (n + 11) + (zrm d').locals ≤ (zrm d).locals := by
  constructor
  · exact h
  · show 8 + (n + 11) + 38 * d' ≤ 38 * d
    omega
theorem zpre {as : List Value} {s : State} {H : Heap} {locs : List Loc} (hE : zEnv x b s) (hP : va_P x.2.1 vwCl (zwd x b S) H) (hS : va_S (zA x b) s.heap H locs) : PreS s H (va_Pc as (fun U => va_P x.2.1 vwCl (zwd x b S) U.heap ∧ zEnv x b U)) as :=
  ⟨fun a U g mk q => ⟨q.1, q.2.1, q.2.2.call g mk a⟩, fun U hU hW => ⟨rfl, by rw [hU]; exact hP, hE.go (by rw [hU]; exact hS.1) (fun q h1 h2 => by rw [hU]; exact hS.2.1 q h1 h2) hW⟩⟩
theorem zcallS {M' : zM} {as rest : List Value} {post' : Option Value → zSt → Prop} {idx n : Nat} (hC : zC x b M' as S post') (d : decode M.2.1 pc = .ok (.invokestatic idx, 3)) (hG : GoodIn wsL_law (va_wsS M.1.cls idx M'.1 [.code M'.1 M'.2.1 M'.2.2.1 M'.2.2.2.1])) (hd : M'.1.cls ≠ "java/lang/invoke/MethodHandle" ∧ M'.1.cls ≠ "java/lang/invoke/VarHandle" ∧ (parseMethodDescriptor M'.1.desc).map (fun d => d.parameters.length) = some n) (hn : as.length = n) (hR : M'.2.2.2.2 < M.2.2.2.2) (hL : M'.2.2.1 ≤ 19) (hrest : (rest.map fun v => v.category).sum ≤ 8) (kk : ∀ r S', post' r S' → zZ x b M post (pc + 3) lv (r.toList ++ rest) S') (hst : st = as.reverse ++ rest) : zZ x b M post pc lv st S := by
  subst hst
  intro p e s m args below meth c H locs ls F hP hS hl
  have ht : ∀ w ∈ wsL_law, w.before args s = true := fun w h => F.2.2.2.2.2.2.2.1 w h _
  exact zrun (va_runS (nL := M.2.2.1) (rest := rest) ⟨F.1, F.2.1, F.2.2.1, F.2.2.2.1, ht⟩ hC (va_cwS n ht hG rfl rfl rfl hd (zfit hR hL)) (zpre F.2.2.2.2.2.2 hP hS) rfl hn hl.1 rfl (lv_room hrest) d ⟨Nat.le_refl 0, Nat.le_refl 0⟩) hS (fun r S' H1 locs1 hp hP1 hS1 => kk r S' hp p e s m args below meth c H1 locs1 ls F hP1 hS1 hl)
theorem zrecv {k ci : Nat} {fs : List (Option Nat)} {q : vw_C} {s : State} {H : Heap} (hE : zEnv x b s) (hP : va_P x.2.1 vwCl (zwd x b S) H) (hk : k < zN b) (hl0 : zlay b k = .inr (.inl (ci, fs))) (hc : vwCl[ci]? = some q) : ∃ cell : Cell, H[zad x k]? = some cell ∧ cell.vm.isStatics = false ∧ s.vm.findClass q.1 = some cell.cls :=
  va_recv hE.1 hP hc (show (zwd x b S)[k]? = some (zad x k, .inr (ci, zfs (zad x) (S.2 k) fs 0)) by rw [zwd_get hk, zcell_obj hl0])
theorem zcallV {M' : zM} {as rest : List Value} {post' : Option Value → zSt → Prop} {idx n k ci : Nat} {fs : List (Option Nat)} {T : u_T} {Nf : Nat} (hC : zC x b M' (.ref (zad x k) :: as) S post') (d : decode M.2.1 pc = .ok (.invokevirtual idx, 3)) (hk : k < zN b) (hl0 : zlay b k = .inr (.inl (ci, fs))) (hc : vwCl[ci]? = some (M'.1.cls, T, Nf)) (hG : GoodIn wsL_law (wsV M.1.cls idx M'.1.cls M'.1 [.code M'.1 M'.2.1 M'.2.2.1 M'.2.2.2.1])) (hd : M'.1.cls ≠ "java/lang/invoke/MethodHandle" ∧ M'.1.cls ≠ "java/lang/invoke/VarHandle" ∧ (parseMethodDescriptor M'.1.desc).map (fun d => d.parameters.length) = some n) (hn : as.length = n) (hR : M'.2.2.2.2 < M.2.2.2.2) (hL : M'.2.2.1 ≤ 19) (hrest : (rest.map fun v => v.category).sum ≤ 8) (kk : ∀ r S', post' r S' → zZ x b M post (pc + 3) lv (r.toList ++ rest) S') (hst : st = as.reverse ++ .ref (zad x k) :: rest) : zZ x b M post pc lv st S := by
  subst hst
  intro p e s m args below meth c H locs ls F hP hS hl
  have ht : ∀ w ∈ wsL_law, w.before args s = true := fun w h => F.2.2.2.2.2.2.2.1 w h _
  have hpre := zpre (as := .ref (zad x k) :: as) F.2.2.2.2.2.2 hP hS
  exact zrun (va_runV (nL := M.2.2.1) (rest := rest) ⟨F.1, F.2.1, F.2.2.1, F.2.2.2.1, ht⟩ hC (cwV n ht hG rfl rfl rfl ⟨rfl, hd⟩ (zfit hR hL)) ⟨hpre.1, zrecv F.2.2.2.2.2.2 hP hk hl0 hc, hpre.2⟩ rfl hn hl.1 rfl (lv_room hrest) d ⟨Nat.le_refl 0, Nat.le_refl 0⟩) hS (fun r S' H1 locs1 hp hP1 hS1 => kk r S' hp p e s m args below meth c H1 locs1 ls F hP1 hS1 hl)
end ZROWS
end
section
/-! The places' lemmas, the methods (name, code, locals, answer, level), the links by pool index -/
def tp (t : Nat) : Nat := 8 + 8 * t
theorem tpk {t w : Nat} (ht : t < 3) (hw : w < 8) : tp t + w < zN true := by
  have : zN true = 39 := rfl
  unfold tp; omega
theorem tp3 {t : Nat} (ht : t < 3) : t = 0 ∨ t = 1 ∨ t = 2 := by omega
theorem tpk0 {t : Nat} (ht : t < 3) : tp t < zN true := tpk (w := 0) ht (by decide)
theorem tpl {t : Nat} (ht : t < 3) : zlay true (tp t) = .inr (.inl (7, [some 1, some (tp t + 1), some (tp t + 2), some (tp t + 3), some (tp t + 4), some (tp t + 5), some (tp t + 6), some (tp t + 7), none, none])) := by
  rcases tp3 ht with rfl | rfl | rfl <;> rfl
theorem tpa {t w : Nat} (ht : t < 3) (h0 : 0 < w) (hw : w < 8) : zlay true (tp t + w) = .inl 8 := by
  have h : w = 1 ∨ w = 2 ∨ w = 3 ∨ w = 4 ∨ w = 5 ∨ w = 6 ∨ w = 7 := by omega
  rcases tp3 ht with rfl | rfl | rfl <;> rcases h with rfl | rfl | rfl | rfl | rfl | rfl | rfl <;> rfl
theorem mrl {k : Nat} (h0 : 0 < k) (h : k < 6) : zlay false k = .inl 58 := by
  have h : k = 1 ∨ k = 2 ∨ k = 3 ∨ k = 4 ∨ k = 5 := by omega
  rcases h with rfl | rfl | rfl | rfl | rfl <;> rfl
theorem mrk {k : Nat} (h : k < 6) : k < zN false := by
  have : zN false = 10 := rfl
  omega
def zOb (b : Bool) (k : Nat) (C : String) : Prop := k < zN b ∧ ∃ (ci : Nat) (fs : List (Option Nat)) (T : u_T) (Nf : Nat), zlay b k = .inr (.inl (ci, fs)) ∧ vwCl[ci]? = some (C, T, Nf)
theorem ob_town {t : Nat} (ht : t < 3) : zOb true (tp t) RX7 := ⟨tpk0 ht, 7, _, TX7, 10, tpl ht, rfl⟩
theorem ob_X : zOb true 0 RX8 := ⟨by decide, 8, _, TX8, 11, rfl, rfl⟩
theorem ob_Te : zOb true 32 RX6 := ⟨by decide, 6, _, TX6, 2, rfl, rfl⟩
theorem ob_Mo : zOb false 0 RX9 := ⟨by decide, 9, _, TX9, 14, rfl, rfl⟩
def zNm (M' : zM) (n : Nat) : Prop := (M'.1.cls ≠ "java/lang/invoke/MethodHandle" ∧ M'.1.cls ≠ "java/lang/invoke/VarHandle" ∧ (parseMethodDescriptor M'.1.desc).map (fun d => d.parameters.length) = some n) ∧ M'.2.2.1 ≤ 19
def zLkS (own : String) (idx : Nat) (M' : zM) (n : Nat) : Prop := GoodIn wsL_law (va_wsS own idx M'.1 [.code M'.1 M'.2.1 M'.2.2.1 M'.2.2.2.1]) ∧ zNm M' n
def zLkV (own : String) (idx : Nat) (M' : zM) (n : Nat) : Prop := GoodIn wsL_law (wsV own idx M'.1.cls M'.1 [.code M'.1 M'.2.1 M'.2.2.1 M'.2.2.2.1]) ∧ zNm M' n
/-- a nest mate's static method -/
def zLkN (own : String) (idx : Nat) (M' : zM) (n : Nat) : Prop := Cond.methodLinkNest own idx M'.1 "EachLendsHisFace" ∈ lw_tbl ∧ GoodIn wsL_law [.static M'.1, .initialized M'.1.cls, .code M'.1 M'.2.1 M'.2.2.1 M'.2.2.2.1] ∧ zNm M' n
section ZC
variable {x : zCx} {b : Bool} {M M' : zM} {post : Option Value → zSt → Prop} {pc idx n : Nat} {lv : List (Nat × Value)} {st as rest : List Value} {S S' : zSt} {v : Value}
theorem zcallSN {post' : Option Value → zSt → Prop} (hC : zC x b M' as S post') (d : decode M.2.1 pc = .ok (.invokestatic idx, 3)) (g : zLkN M.1.cls idx M' n) (hn : as.length = n) (hR : M'.2.2.2.2 < M.2.2.2.2) (hrest : (rest.map fun v => v.category).sum ≤ 8) (kk : ∀ r S', post' r S' → zZ x b M post (pc + 3) lv (r.toList ++ rest) S') (hst : st = as.reverse ++ rest) : zZ x b M post pc lv st S := by
  subst hst
  obtain ⟨g1, g2, g3, g4⟩ := g
  intro p e s m args below meth c H locs ls F hP hS hl
  have ht : ∀ w ∈ wsL_law, w.before args s = true := fun w h => F.2.2.2.2.2.2.2.1 w h _
  have hG : GoodIn wsL_law [.code M'.1 M'.2.1 M'.2.2.1 M'.2.2.2.1] := fun w h => g2 w (List.mem_cons_of_mem _ (List.mem_cons_of_mem _ h))
  exact zrun (va_runSN (nL := M.2.2.1) (rest := rest) ⟨F.1, F.2.1, F.2.2.1, F.2.2.2.1, ht⟩ hC ⟨va_cnB n ht hG rfl rfl rfl (F.2.2.2.2.2.2.2.2.1 _ g1 rfl) (ht _ (g2 _ (List.mem_cons_of_mem _ List.mem_cons_self)).1) g3 (zfit hR g4), ht _ (g2 _ List.mem_cons_self).1, trivial⟩ (zpre F.2.2.2.2.2.2 hP hS) rfl hn hl.1 rfl (lv_room hrest) d ⟨Nat.le_refl 0, Nat.le_refl 0⟩) hS (fun r S' H1 locs1 hp hP1 hS1 => kk r S' hp p e s m args below meth c H1 locs1 ls F hP1 hS1 hl)
def zR (x : zCx) (b : Bool) (M : zM) (as : List Value) (S : zSt) (P : Int32 → zSt → Prop) : Prop := zC x b M as S (fun q T => ∃ v : Int32, q = some (.int v) ∧ P v T)
def zV (x : zCx) (b : Bool) (M : zM) (as : List Value) (S : zSt) (P : zSt → Prop) : Prop := zC x b M as S (fun q T => q = none ∧ P T)

theorem zcSf (g : zLkS M.1.cls idx M' n) (d : decode M.2.1 pc = .ok (.invokestatic idx, 3)) (hC : zF x b M' as S (some v) S') (hn : as.length = n) (hR : M'.2.2.2.2 < M.2.2.2.2) (hrest : (rest.map fun v => v.category).sum ≤ 8) (kk : zZ x b M post (pc + 3) lv (v :: rest) S') (hst : st = as.reverse ++ rest) : zZ x b M post pc lv st S := zcallS hC d g.1 g.2.1 hn hR g.2.2 hrest (fun r T h => by rw [h.1, h.2]; exact kk) hst
theorem zcSv (g : zLkS M.1.cls idx M' n) (d : decode M.2.1 pc = .ok (.invokestatic idx, 3)) (hC : zF x b M' as S none S') (hn : as.length = n) (hR : M'.2.2.2.2 < M.2.2.2.2) (hrest : (rest.map fun v => v.category).sum ≤ 8) (kk : zZ x b M post (pc + 3) lv rest S') (hst : st = as.reverse ++ rest) : zZ x b M post pc lv st S := zcallS hC d g.1 g.2.1 hn hR g.2.2 hrest (fun r T h => by rw [h.1, h.2]; exact kk) hst
theorem zcSr (g : zLkS M.1.cls idx M' n) (d : decode M.2.1 pc = .ok (.invokestatic idx, 3)) {P : Int32 → zSt → Prop} (hC : zR x b M' as S P) (hn : as.length = n) (hR : M'.2.2.2.2 < M.2.2.2.2) (hrest : (rest.map fun v => v.category).sum ≤ 8) (kk : ∀ r T, P r T → zZ x b M post (pc + 3) lv (.int r :: rest) T) (hst : st = as.reverse ++ rest) : zZ x b M post pc lv st S := zcallS hC d g.1 g.2.1 hn hR g.2.2 hrest (fun r T h => by obtain ⟨v, rfl, h⟩ := h; exact kk v T h) hst
theorem zcSn (g : zLkS M.1.cls idx M' n) (d : decode M.2.1 pc = .ok (.invokestatic idx, 3)) {P : zSt → Prop} (hC : zV x b M' as S P) (hn : as.length = n) (hR : M'.2.2.2.2 < M.2.2.2.2) (hrest : (rest.map fun v => v.category).sum ≤ 8) (kk : ∀ T, P T → zZ x b M post (pc + 3) lv rest T) (hst : st = as.reverse ++ rest) : zZ x b M post pc lv st S := zcallS hC d g.1 g.2.1 hn hR g.2.2 hrest (fun r T h => by obtain ⟨rfl, h⟩ := h; exact kk T h) hst
theorem zcNf (g : zLkN M.1.cls idx M' n) (d : decode M.2.1 pc = .ok (.invokestatic idx, 3)) (hC : zF x b M' as S (some v) S') (hn : as.length = n) (hR : M'.2.2.2.2 < M.2.2.2.2) (hrest : (rest.map fun v => v.category).sum ≤ 8) (kk : zZ x b M post (pc + 3) lv (v :: rest) S') (hst : st = as.reverse ++ rest) : zZ x b M post pc lv st S := zcallSN hC d g hn hR hrest (fun r T h => by rw [h.1, h.2]; exact kk) hst
theorem zcNv (g : zLkN M.1.cls idx M' n) (d : decode M.2.1 pc = .ok (.invokestatic idx, 3)) (hC : zF x b M' as S none S') (hn : as.length = n) (hR : M'.2.2.2.2 < M.2.2.2.2) (hrest : (rest.map fun v => v.category).sum ≤ 8) (kk : zZ x b M post (pc + 3) lv rest S') (hst : st = as.reverse ++ rest) : zZ x b M post pc lv st S := zcallSN hC d g hn hR hrest (fun r T h => by rw [h.1, h.2]; exact kk) hst
theorem zcNr (g : zLkN M.1.cls idx M' n) (d : decode M.2.1 pc = .ok (.invokestatic idx, 3)) {P : Int32 → zSt → Prop} (hC : zR x b M' as S P) (hn : as.length = n) (hR : M'.2.2.2.2 < M.2.2.2.2) (hrest : (rest.map fun v => v.category).sum ≤ 8) (kk : ∀ r T, P r T → zZ x b M post (pc + 3) lv (.int r :: rest) T) (hst : st = as.reverse ++ rest) : zZ x b M post pc lv st S := zcallSN hC d g hn hR hrest (fun r T h => by obtain ⟨v, rfl, h⟩ := h; exact kk v T h) hst
theorem zcNn (g : zLkN M.1.cls idx M' n) (d : decode M.2.1 pc = .ok (.invokestatic idx, 3)) {P : zSt → Prop} (hC : zV x b M' as S P) (hn : as.length = n) (hR : M'.2.2.2.2 < M.2.2.2.2) (hrest : (rest.map fun v => v.category).sum ≤ 8) (kk : ∀ T, P T → zZ x b M post (pc + 3) lv rest T) (hst : st = as.reverse ++ rest) : zZ x b M post pc lv st S := zcallSN hC d g hn hR hrest (fun r T h => by obtain ⟨rfl, h⟩ := h; exact kk T h) hst
theorem zcVf {k : Nat} (o : zOb b k M'.1.cls) (g : zLkV M.1.cls idx M' n) (d : decode M.2.1 pc = .ok (.invokevirtual idx, 3)) (hC : zF x b M' (.ref (zad x k) :: as) S (some v) S') (hn : as.length = n) (hR : M'.2.2.2.2 < M.2.2.2.2) (hrest : (rest.map fun v => v.category).sum ≤ 8) (kk : zZ x b M post (pc + 3) lv (v :: rest) S') (hst : st = as.reverse ++ .ref (zad x k) :: rest) : zZ x b M post pc lv st S := by
  obtain ⟨ok, ci, fs, T, Nf, ol, oc⟩ := o
  exact zcallV hC d ok ol oc g.1 g.2.1 hn hR g.2.2 hrest (fun r T h => by rw [h.1, h.2]; exact kk) hst
theorem zcVv {k : Nat} (o : zOb b k M'.1.cls) (g : zLkV M.1.cls idx M' n) (d : decode M.2.1 pc = .ok (.invokevirtual idx, 3)) (hC : zF x b M' (.ref (zad x k) :: as) S none S') (hn : as.length = n) (hR : M'.2.2.2.2 < M.2.2.2.2) (hrest : (rest.map fun v => v.category).sum ≤ 8) (kk : zZ x b M post (pc + 3) lv rest S') (hst : st = as.reverse ++ .ref (zad x k) :: rest) : zZ x b M post pc lv st S := by
  obtain ⟨ok, ci, fs, T, Nf, ol, oc⟩ := o
  exact zcallV hC d ok ol oc g.1 g.2.1 hn hR g.2.2 hrest (fun r T h => by rw [h.1, h.2]; exact kk) hst
theorem zcVr {k : Nat} (o : zOb b k M'.1.cls) (g : zLkV M.1.cls idx M' n) (d : decode M.2.1 pc = .ok (.invokevirtual idx, 3)) {P : Int32 → zSt → Prop} (hC : zR x b M' (.ref (zad x k) :: as) S P) (hn : as.length = n) (hR : M'.2.2.2.2 < M.2.2.2.2) (hrest : (rest.map fun v => v.category).sum ≤ 8) (kk : ∀ r T, P r T → zZ x b M post (pc + 3) lv (.int r :: rest) T) (hst : st = as.reverse ++ .ref (zad x k) :: rest) : zZ x b M post pc lv st S := by
  obtain ⟨ok, ci, fs, T, Nf, ol, oc⟩ := o
  exact zcallV hC d ok ol oc g.1 g.2.1 hn hR g.2.2 hrest (fun r T h => by obtain ⟨v, rfl, h⟩ := h; exact kk v T h) hst
theorem zcVn {k : Nat} (o : zOb b k M'.1.cls) (g : zLkV M.1.cls idx M' n) (d : decode M.2.1 pc = .ok (.invokevirtual idx, 3)) {P : zSt → Prop} (hC : zV x b M' (.ref (zad x k) :: as) S P) (hn : as.length = n) (hR : M'.2.2.2.2 < M.2.2.2.2) (hrest : (rest.map fun v => v.category).sum ≤ 8) (kk : ∀ T, P T → zZ x b M post (pc + 3) lv rest T) (hst : st = as.reverse ++ .ref (zad x k) :: rest) : zZ x b M post pc lv st S := by
  obtain ⟨ok, ci, fs, T, Nf, ol, oc⟩ := o
  exact zcallV hC d ok ol oc g.1 g.2.1 hn hR g.2.2 hrest (fun r T h => by obtain ⟨rfl, h⟩ := h; exact kk T h) hst
theorem ziald {k n i : Nat} (d : decode M.2.1 pc = .ok (.iaload, 1)) (hk : k < zN b) (hl0 : zlay b k = .inl n) (hn : n < 2 ^ 31) (hi : i < n) (kk : zZ x b M post (pc + 1) lv (.int (S.1 k i) :: st) S) : zZ x b M post pc lv (.int (nI i) :: .ref (zad x k) :: st) S := by
  refine ziaload d hk hl0 (vp_in_nI hi hn) ?_
  rw [nI_clamp (by omega)]
  exact kk
theorem ziast {k n i : Nat} {v : Int32} (d : decode M.2.1 pc = .ok (.iastore, 1)) (hk : k < zN b) (hl0 : zlay b k = .inl n) (hn : n < 2 ^ 31) (hi : i < n) (kk : zZ x b M post (pc + 1) lv st (u2 S.1 k i v, S.2)) : zZ x b M post pc lv (.int v :: .int (nI i) :: .ref (zad x k) :: st) S := by
  refine ziastore d hk hl0 (vp_in_nI hi hn) ?_
  rw [nI_clamp (by omega)]
  exact kk
def bI (b : Bool) : Int32 := if b = true then 1 else 0
theorem zifb_eq {q : Bool} {off : Int} {tgt : Nat} (d : decode M.2.1 pc = .ok (.ifCond .eq off, 3)) (ht : (pc : Int) + off = (tgt : Int)) (kt : q = false → zZ x b M post tgt lv st S) (kf : q = true → zZ x b M post (pc + 3) lv st S) : zZ x b M post pc lv (.int (bI q) :: st) S :=
  zif_eq d ht (fun h => kt (by cases q; rfl; exact absurd h (by decide))) (fun h => kf (by cases q; exact absurd rfl h; rfl))
theorem zifb_ne {q : Bool} {off : Int} {tgt : Nat} (d : decode M.2.1 pc = .ok (.ifCond .ne off, 3)) (ht : (pc : Int) + off = (tgt : Int)) (kt : q = true → zZ x b M post tgt lv st S) (kf : q = false → zZ x b M post (pc + 3) lv st S) : zZ x b M post pc lv (.int (bI q) :: st) S :=
  zif_ne d ht (fun h => kt (by cases q; exact absurd rfl h; rfl)) (fun h => kf (by cases q; rfl; exact absurd h (by decide)))
theorem zbret {q : Bool} {v : Int32} (d : decode M.2.1 pc = .ok (.ireturn, 1)) (hr : M.2.2.2.1 = some .boolean) (hv : v = bI q) (hp : post (some (.int (bI q))) S) : zZ x b M post pc lv [.int v] S := by
  subst hv
  exact zireturn d hr (by cases q <;> rfl) hp
theorem ziret {v w : Int32} (d : decode M.2.1 pc = .ok (.ireturn, 1)) (hr : M.2.2.2.1 = some .int) (hv : v = w) (hp : post (some (.int w)) S) : zZ x b M post pc lv [.int v] S := by
  subst hv
  exact zireturn d hr rfl hp
end ZC

def mX8_init : zM := (yX8_init, cX8_init, 2, none, 5)
def mX8_letter : zM := (yX8_letter, cX8_letter, 3, (some .int), 2)
def mX8_town : zM := (yX8_town, cX8_town, 2, (some .int), 9)
def mX8_person : zM := (yX8_person, cX8_person, 4, (some .int), 2)
def mX8_face : zM := (yX8_face, cX8_face, 4, (some .int), 2)
def mX8_worth : zM := (yX8_worth, cX8_worth, 3, (some .int), 2)
def mX8_lends : zM := (yX8_lends, cX8_lends, 4, (some .int), 3)
def mX8_back : zM := (yX8_back, cX8_back, 3, (some .int), 2)
def mX8_learns : zM := (yX8_learns, cX8_learns, 4, (some .int), 2)
def mX8_becomes : zM := (yX8_becomes, cX8_becomes, 7, (some .int), 2)
def mX8_turn : zM := (yX8_turn, cX8_turn, 6, (some .int), 2)
def mX8_months : zM := (yX8_months, cX8_months, 3, (some .int), 5)
def mX8_faceThen : zM := (yX8_faceThen, cX8_faceThen, 5, (some .int), 6)
def mX8_wornThen : zM := (yX8_wornThen, cX8_wornThen, 4, (some .int), 6)
def mX8_first : zM := (yX8_first, cX8_first, 3, (some .int), 6)
def mX8_monthsTillHome : zM := (yX8_monthsTillHome, cX8_monthsTillHome, 2, (some .int), 5)
def mX8_firstWithoutFame : zM := (yX8_firstWithoutFame, cX8_firstWithoutFame, 4, (some .int), 5)
def mX8_think : zM := (yX8_think, cX8_think, 2, none, 5)
def mX8_meets : zM := (yX8_meets, cX8_meets, 4, (some .int), 3)
def mX8_deceived : zM := (yX8_deceived, cX8_deceived, 6, (some .int), 2)
def mX8_famous : zM := (yX8_famous, cX8_famous, 7, (some .int), 1)
def mX8_chained : zM := (yX8_chained, cX8_chained, 3, (some .int), 2)
def mX8_widow : zM := (yX8_widow, cX8_widow, 5, (some .int), 3)
def mX8_twins : zM := (yX8_twins, cX8_twins, 7, (some .int), 1)
def mX8_lend : zM := (yX8_lend, cX8_lend, 5, (some .int), 7)
def mX8_take : zM := (yX8_take, cX8_take, 4, (some .int), 7)
def mX8_bestPartner : zM := (yX8_bestPartner, cX8_bestPartner, 9, (some .int), 6)
def mX8_thinkOfLending : zM := (yX8_thinkOfLending, cX8_thinkOfLending, 4, none, 5)
def mX8_keep : zM := (yX8_keep, cX8_keep, 6, (some .int), 6)
def mX8_lot : zM := (yX8_lot, cX8_lot, 8, (some .int), 6)
def mX8_findFree : zM := (yX8_findFree, cX8_findFree, 3, (some .int), 1)
def mX8_worthsOfLot : zM := (yX8_worthsOfLot, cX8_worthsOfLot, 5, (some .int), 5)
def mX8_fewest : zM := (yX8_fewest, cX8_fewest, 6, (some .int), 7)
def mX8_firstLenderBringing : zM := (yX8_firstLenderBringing, cX8_firstLenderBringing, 5, (some .int), 6)
def mX8_two : zM := (yX8_two, cX8_two, 6, (some .int), 5)
def mX8_firstSettledChoice : zM := (yX8_firstSettledChoice, cX8_firstSettledChoice, 4, (some .int), 0)
def mX8_quarrel : zM := (yX8_quarrel, cX8_quarrel, 9, (some .long), 6)
def mX8_waysOfScars : zM := (yX8_waysOfScars, cX8_waysOfScars, 9, (some .long), 1)
def mX8_mean : zM := (yX8_mean, cX8_mean, 3, (some .long), 2)
def mX8_partOfFraction : zM := (yX8_partOfFraction, cX8_partOfFraction, 9, (some .long), 1)
def mX8_greatestShared : zM := (yX8_greatestShared, cX8_greatestShared, 11, (some .long), 0)
def mX8_power : zM := (yX8_power, cX8_power, 6, (some .long), 0)
def mX8_row : zM := (yX8_row, cX8_row, 3, (some .int), 2)
def mX8_clear : zM := (yX8_clear, cX8_clear, 2, (some .int), 0)
def mX8_judge : zM := (yX8_judge, cX8_judge, 3, (some .int), 0)
def mX8_who : zM := (yX8_who, cX8_who, 5, (some .int), 4)
def mX8_wearingFits : zM := (yX8_wearingFits, cX8_wearingFits, 6, (some .boolean), 3)
def mX8_whatIs : zM := (yX8_whatIs, cX8_whatIs, 8, (some .int), 6)
def mX8_mindFits : zM := (yX8_mindFits, cX8_mindFits, 3, (some .boolean), 5)
def mX8_lots : zM := (yX8_lots, cX8_lots, 8, (some .int), 6)
def mX8_drawTown : zM := (yX8_drawTown, cX8_drawTown, 6, (some .int), 5)
def mX8_nextSeed : zM := (yX8_nextSeed, cX8_nextSeed, 1, (some .int), 0)
def mX8_drawBelow : zM := (yX8_drawBelow, cX8_drawBelow, 2, (some .int), 0)
def mX8_image : zM := (yX8_image, cX8_image, 1, (some .int), 1)
def mX8_on : zM := (yX8_on, cX8_on, 1, (some .int), 1)
def mX8_count : zM := (yX8_count, cX8_count, 2, (some .int), 2)
def mX8_personFault : zM := (yX8_personFault, cX8_personFault, 2, (some .int), 1)
def mX8_twoFault : zM := (yX8_twoFault, cX8_twoFault, 3, (some .int), 2)
def mX8_whatFault : zM := (yX8_whatFault, cX8_whatFault, 2, (some .int), 0)
def mX8_leastFault : zM := (yX8_leastFault, cX8_leastFault, 2, (some .int), 0)
def mX8_mostFault : zM := (yX8_mostFault, cX8_mostFault, 2, (some .int), 0)
def mX8_rangeFault : zM := (yX8_rangeFault, cX8_rangeFault, 3, (some .int), 1)
def mX8_firstOf : zM := (yX8_firstOf, cX8_firstOf, 2, (some .int), 0)
def mX8_firstOfThree : zM := (yX8_firstOfThree, cX8_firstOfThree, 3, (some .int), 1)
def mX8_refuse : zM := (yX8_refuse, cX8_refuse, 2, (some .int), 0)
def mX8_refuseFarOff : zM := (yX8_refuseFarOff, cX8_refuseFarOff, 2, (some .int), 1)
def mX8_refuseLong : zM := (yX8_refuseLong, cX8_refuseLong, 2, (some .long), 1)
def mX8_withinMarks : zM := (yX8_withinMarks, cX8_withinMarks, 1, (some .int), 1)
def mX9_init : zM := (yX9_init, cX9_init, 1, none, 1)
def mX9_isIn : zM := (yX9_isIn, cX9_isIn, 3, (some .boolean), 0)
def mX9_held : zM := (yX9_held, cX9_held, 1, (some .int), 0)
def mX9_copies : zM := (yX9_copies, cX9_copies, 3, none, 0)
def mX9_no : zM := (yX9_no, cX9_no, 2, (some .int), 0)
def mX9_noFar : zM := (yX9_noFar, cX9_noFar, 2, (some .int), 1)
def mX9_noWide : zM := (yX9_noWide, cX9_noWide, 2, (some .long), 1)
def mX9_of : zM := (yX9_of, cX9_of, 2, (some .int), 0)
def mX9_isOne : zM := (yX9_isOne, cX9_isOne, 2, (some .boolean), 1)
def mX9_areTwo : zM := (yX9_areTwo, cX9_areTwo, 3, (some .boolean), 2)
def mX9_has : zM := (yX9_has, cX9_has, 2, (some .boolean), 0)
def mX9_knowing : zM := (yX9_knowing, cX9_knowing, 5, (some .int), 1)
def mX9_fameBy : zM := (yX9_fameBy, cX9_fameBy, 3, (some .int), 2)
def mX9_scarsBy : zM := (yX9_scarsBy, cX9_scarsBy, 3, (some .int), 1)
def mX9_wearsOwn : zM := (yX9_wearsOwn, cX9_wearsOwn, 2, (some .boolean), 1)
def mX9_canLend : zM := (yX9_canLend, cX9_canLend, 3, (some .boolean), 2)
def mX9_lendsIn : zM := (yX9_lendsIn, cX9_lendsIn, 3, none, 1)
def mX9_wearerOf : zM := (yX9_wearerOf, cX9_wearerOf, 3, (some .int), 1)
def mX9_comesBack : zM := (yX9_comesBack, cX9_comesBack, 3, (some .int), 2)
def mX9_month : zM := (yX9_month, cX9_month, 4, none, 3)
def mX9_monthsOn : zM := (yX9_monthsOn, cX9_monthsOn, 3, none, 4)
def mX9_worthIn : zM := (yX9_worthIn, cX9_worthIn, 2, (some .int), 1)
def mX9_worthAll : zM := (yX9_worthAll, cX9_worthAll, 3, (some .int), 2)
def mX9_lentIn : zM := (yX9_lentIn, cX9_lentIn, 3, (some .int), 1)
def mX9_letter : zM := (yX9_letter, cX9_letter, 2, (some .int), 1)
def mX9_here : zM := (yX9_here, cX9_here, 1, (some .int), 0)
def mX9_readsNumber : zM := (yX9_readsNumber, cX9_readsNumber, 4, (some .boolean), 1)
def mX9_kindBy : zM := (yX9_kindBy, cX9_kindBy, 1, (some .int), 0)
def mX9_readsKind : zM := (yX9_readsKind, cX9_readsKind, 1, (some .boolean), 1)
def mX9_readsStatement : zM := (yX9_readsStatement, cX9_readsStatement, 3, (some .boolean), 2)
def mX9_adds : zM := (yX9_adds, cX9_adds, 4, (some .boolean), 1)
def mX9_isDone : zM := (yX9_isDone, cX9_isDone, 5, (some .boolean), 5)
def mX9_town : zM := (yX9_town, cX9_town, 6, (some .int), 6)
def mX9_person : zM := (yX9_person, cX9_person, 3, (some .int), 2)
def mX9_faceIn : zM := (yX9_faceIn, cX9_faceIn, 3, (some .int), 2)
def mX9_face : zM := (yX9_face, cX9_face, 3, (some .int), 3)
def mX9_worth : zM := (yX9_worth, cX9_worth, 2, (some .int), 2)
def mX9_lends : zM := (yX9_lends, cX9_lends, 3, (some .int), 3)
def mX9_back : zM := (yX9_back, cX9_back, 2, (some .int), 3)
def mX9_learns : zM := (yX9_learns, cX9_learns, 3, (some .int), 2)
def mX9_wrongBy : zM := (yX9_wrongBy, cX9_wrongBy, 2, (some .int), 0)
def mX9_becomes : zM := (yX9_becomes, cX9_becomes, 6, (some .int), 2)
def mX9_turn : zM := (yX9_turn, cX9_turn, 6, (some .int), 2)
def mX9_months : zM := (yX9_months, cX9_months, 2, (some .int), 5)
def mX9_faceThen : zM := (yX9_faceThen, cX9_faceThen, 5, (some .int), 5)
def mX9_wornThen : zM := (yX9_wornThen, cX9_wornThen, 4, (some .int), 5)
def mX9_areHome : zM := (yX9_areHome, cX9_areHome, 2, (some .boolean), 2)
def mX9_first : zM := (yX9_first, cX9_first, 4, (some .int), 4)
def mX9_meetsOne : zM := (yX9_meetsOne, cX9_meetsOne, 4, (some .int), 1)
def mX9_meets : zM := (yX9_meets, cX9_meets, 3, (some .int), 3)
def mX9_deceived : zM := (yX9_deceived, cX9_deceived, 4, (some .int), 2)
def mX9_famous : zM := (yX9_famous, cX9_famous, 4, (some .int), 1)
def mX9_worthBehind : zM := (yX9_worthBehind, cX9_worthBehind, 3, (some .int), 5)
def mX9_worthNow : zM := (yX9_worthNow, cX9_worthNow, 3, (some .int), 6)
def mX9_wrongLend : zM := (yX9_wrongLend, cX9_wrongLend, 3, (some .int), 2)
def mX9_lend : zM := (yX9_lend, cX9_lend, 10, (some .int), 7)
def mX9_take : zM := (yX9_take, cX9_take, 8, (some .int), 7)
def mX9_keep : zM := (yX9_keep, cX9_keep, 8, (some .int), 7)
def mX9_plainSet : zM := (yX9_plainSet, cX9_plainSet, 3, (some .int), 1)
def mX9_chained : zM := (yX9_chained, cX9_chained, 6, (some .int), 2)
def mX9_pairsBy : zM := (yX9_pairsBy, cX9_pairsBy, 5, (some .int), 2)
def mX9_lot : zM := (yX9_lot, cX9_lot, 8, (some .int), 6)
def mX9_isFamedBehind : zM := (yX9_isFamedBehind, cX9_isFamedBehind, 4, (some .boolean), 5)
def mX9_canBeBy : zM := (yX9_canBeBy, cX9_canBeBy, 5, (some .boolean), 6)
def mX9_firstLender : zM := (yX9_firstLender, cX9_firstLender, 6, (some .int), 7)
def mX9_fewest : zM := (yX9_fewest, cX9_fewest, 7, (some .int), 8)
def mX9_who : zM := (yX9_who, cX9_who, 7, (some .int), 3)
def mX9_widow : zM := (yX9_widow, cX9_widow, 4, (some .int), 3)
def mX9_twins : zM := (yX9_twins, cX9_twins, 6, (some .int), 1)
def mX9_worthBoth : zM := (yX9_worthBoth, cX9_worthBoth, 7, (some .int), 6)
def mX9_two : zM := (yX9_two, cX9_two, 8, (some .int), 7)
def mX9_gcd : zM := (yX9_gcd, cX9_gcd, 10, (some .long), 0)
def mX9_partOf : zM := (yX9_partOf, cX9_partOf, 5, (some .long), 1)
def mX9_quarrel : zM := (yX9_quarrel, cX9_quarrel, 14, (some .long), 4)
def mX9_allOf : zM := (yX9_allOf, cX9_allOf, 4, (some .int), 1)
def mX9_mean : zM := (yX9_mean, cX9_mean, 2, (some .long), 2)
def mX9_whatIs : zM := (yX9_whatIs, cX9_whatIs, 8, (some .int), 4)
def mX9_row : zM := (yX9_row, cX9_row, 3, (some .int), 1)
def mX9_judge : zM := (yX9_judge, cX9_judge, 3, (some .int), 2)
def mX9_clear : zM := (yX9_clear, cX9_clear, 2, (some .int), 0)
def mX9_drawn : zM := (yX9_drawn, cX9_drawn, 2, (some .int), 0)
def mX9_lots : zM := (yX9_lots, cX9_lots, 9, (some .int), 5)
def mX9_image : zM := (yX9_image, cX9_image, 1, (some .int), 1)
def mX9_on : zM := (yX9_on, cX9_on, 1, (some .int), 1)
def mX9_count : zM := (yX9_count, cX9_count, 2, (some .int), 2)
def mX0_init : zM := (yX0_init, cX0_init, 1, none, 2)
def mX0_fameChange : zM := (yX0_fameChange, cX0_fameChange, 3, (some .int), 0)
def mX1_init : zM := (yX1_init, cX1_init, 1, none, 3)
def mX1_fameChange : zM := (yX1_fameChange, cX1_fameChange, 3, (some .int), 0)
def mX1_scarsMore : zM := (yX1_scarsMore, cX1_scarsMore, 2, (some .int), 0)
def mX2_init : zM := (yX2_init, cX2_init, 1, none, 4)
def mX2_fameChange : zM := (yX2_fameChange, cX2_fameChange, 3, (some .int), 1)
def mX3_init : zM := (yX3_init, cX3_init, 1, none, 2)
def mX3_fameChange : zM := (yX3_fameChange, cX3_fameChange, 3, (some .int), 0)
def mX4_init : zM := (yX4_init, cX4_init, 1, none, 2)
def mX4_fameChange : zM := (yX4_fameChange, cX4_fameChange, 3, (some .int), 0)
def mX4_scarsMore : zM := (yX4_scarsMore, cX4_scarsMore, 2, (some .int), 0)
def mX5_init : zM := (yX5_init, cX5_init, 1, none, 1)
def mX5_fameChange : zM := (yX5_fameChange, cX5_fameChange, 3, (some .int), 0)
def mX5_scarsMore : zM := (yX5_scarsMore, cX5_scarsMore, 2, (some .int), 0)
def mX6_init : zM := (yX6_init, cX6_init, 1, none, 1)
def mX6_takes : zM := (yX6_takes, cX6_takes, 2, (some .boolean), 0)
def mX6_carryOut : zM := (yX6_carryOut, cX6_carryOut, 5, (some .int), 8)
def mX6_brokenPlace : zM := (yX6_brokenPlace, cX6_brokenPlace, 4, (some .int), 7)
def mX6_shapeOf : zM := (yX6_shapeOf, cX6_shapeOf, 1, (some (.object "java/lang/String")), 0)
def mX6_fits : zM := (yX6_fits, cX6_fits, 2, (some .boolean), 6)
def mX6_kindOf : zM := (yX6_kindOf, cX6_kindOf, 1, (some .int), 5)
def mX6_comesTo : zM := (yX6_comesTo, cX6_comesTo, 3, (some .boolean), 6)
def mX6_signAt : zM := (yX6_signAt, cX6_signAt, 2, (some .int), 0)
def mX6_digitAt : zM := (yX6_digitAt, cX6_digitAt, 2, (some .int), 1)
def mX6_twoDigitsAt : zM := (yX6_twoDigitsAt, cX6_twoDigitsAt, 2, (some .int), 2)
def mX6_lendingComes : zM := (yX6_lendingComes, cX6_lendingComes, 4, (some .boolean), 2)
def mX6_backComes : zM := (yX6_backComes, cX6_backComes, 3, (some .boolean), 2)
def mX6_knowingComes : zM := (yX6_knowingComes, cX6_knowingComes, 4, (some .boolean), 1)
def mX6_fameComes : zM := (yX6_fameComes, cX6_fameComes, 4, (some .boolean), 1)
def mX6_monthsCome : zM := (yX6_monthsCome, cX6_monthsCome, 3, (some .boolean), 5)
def mX7_init : zM := (yX7_init, cX7_init, 2, none, 1)
def mX7_becomeLike : zM := (yX7_becomeLike, cX7_becomeLike, 3, none, 0)
def mX7_isThere : zM := (yX7_isThere, cX7_isThere, 2, (some .boolean), 0)
def mX7_takesIn : zM := (yX7_takesIn, cX7_takesIn, 3, (some .boolean), 0)
def mX7_wearsOwn : zM := (yX7_wearsOwn, cX7_wearsOwn, 2, (some .boolean), 0)
def mX7_isLent : zM := (yX7_isLent, cX7_isLent, 2, (some .boolean), 0)
def mX7_canLend : zM := (yX7_canLend, cX7_canLend, 3, (some .boolean), 1)
def mX7_handOver : zM := (yX7_handOver, cX7_handOver, 3, none, 0)
def mX7_bringBack : zM := (yX7_bringBack, cX7_bringBack, 3, (some .int), 1)
def mX7_wearerOf : zM := (yX7_wearerOf, cX7_wearerOf, 3, (some .int), 0)
def mX7_ofFace : zM := (yX7_ofFace, cX7_ofFace, 3, (some .int), 1)
def mX7_turnKnowing : zM := (yX7_turnKnowing, cX7_turnKnowing, 3, none, 0)
def mX7_knowsFace : zM := (yX7_knowsFace, cX7_knowsFace, 3, (some .boolean), 0)
def mX7_takenFor : zM := (yX7_takenFor, cX7_takenFor, 4, (some .int), 1)
def mX7_knowersOf : zM := (yX7_knowersOf, cX7_knowersOf, 4, (some .int), 0)
def mX7_changeOfFame : zM := (yX7_changeOfFame, cX7_changeOfFame, 3, (some .int), 2)
def mX7_goOn : zM := (yX7_goOn, cX7_goOn, 4, none, 4)
def mX7_wearForAMonth : zM := (yX7_wearForAMonth, cX7_wearForAMonth, 3, none, 3)
def mX7_keepLentForAMonth : zM := (yX7_keepLentForAMonth, cX7_keepLentForAMonth, 2, none, 2)
def mX7_worthOf : zM := (yX7_worthOf, cX7_worthOf, 2, (some .int), 0)
def mX7_allFame : zM := (yX7_allFame, cX7_allFame, 1, (some .int), 1)
def mX7_allScars : zM := (yX7_allScars, cX7_allScars, 1, (some .int), 1)
def mX7_allWorths : zM := (yX7_allWorths, cX7_allWorths, 1, (some .int), 2)
def mX7_sumOf : zM := (yX7_sumOf, cX7_sumOf, 4, (some .int), 0)
def mX7_lookAlike : zM := (yX7_lookAlike, cX7_lookAlike, 3, (some .boolean), 0)
def mX7_faceWithoutFame : zM := (yX7_faceWithoutFame, cX7_faceWithoutFame, 2, (some .int), 0)
def mX7_allWearTheirOwn : zM := (yX7_allWearTheirOwn, cX7_allWearTheirOwn, 2, (some .boolean), 1)
def mX7_lentFaces : zM := (yX7_lentFaces, cX7_lentFaces, 3, (some .int), 1)
def mX7_wearersOfOthers : zM := (yX7_wearersOfOthers, cX7_wearersOfOthers, 3, (some .int), 1)
def mX7_plainWearers : zM := (yX7_plainWearers, cX7_plainWearers, 3, (some .int), 0)
def mX7_facesSeen : zM := (yX7_facesSeen, cX7_facesSeen, 3, (some .int), 0)
theorem gk_X8_73 : zLkS RX8 73 mX8_rangeFault 3 := ⟨goodIn_r _ [98, 99, 2, 100] (by decide +kernel) (by decide +kernel), by unfold zNm; decide +kernel⟩
theorem gk_X8_77 : zLkV RX8 77 mX8_refuse 1 := ⟨goodIn_r _ [110, 111, 112, 2, 113] (by decide +kernel) (by decide +kernel), by unfold zNm; decide +kernel⟩
theorem gk_X8_81 : zLkV RX8 81 mX6_takes 1 := ⟨goodIn_r _ [114, 115, 116, 38, 117] (by decide +kernel) (by decide +kernel), by unfold zNm; decide +kernel⟩
theorem gk_X8_88 : zLkV RX8 88 mX7_becomeLike 1 := ⟨goodIn_r _ [131, 132, 133, 32, 134] (by decide +kernel) (by decide +kernel), by unfold zNm; decide +kernel⟩
theorem gk_X8_92 : zLkV RX8 92 mX6_carryOut 1 := ⟨goodIn_r _ [135, 136, 137, 38, 138] (by decide +kernel) (by decide +kernel), by unfold zNm; decide +kernel⟩
theorem gk_X8_96 : zLkV RX8 96 mX8_personFault 1 := ⟨goodIn_r _ [489, 490, 491, 2, 492] (by decide +kernel) (by decide +kernel), by unfold zNm; decide +kernel⟩
theorem gk_X8_99 : zLkS RX8 99 mX8_whatFault 2 := ⟨goodIn_r _ [494, 495, 2, 496] (by decide +kernel) (by decide +kernel), by unfold zNm; decide +kernel⟩
theorem gk_X8_103 : zLkS RX8 103 mX8_firstOf 2 := ⟨goodIn_r _ [107, 108, 2, 109] (by decide +kernel) (by decide +kernel), by unfold zNm; decide +kernel⟩
theorem gk_X8_118 : zLkV RX8 118 mX7_ofFace 2 := ⟨goodIn_r _ [505, 506, 507, 32, 508] (by decide +kernel) (by decide +kernel), by unfold zNm; decide +kernel⟩
theorem gk_X8_121 : zLkV RX8 121 mX8_refuseFarOff 1 := ⟨goodIn_r _ [520, 521, 522, 2, 523] (by decide +kernel) (by decide +kernel), by unfold zNm; decide +kernel⟩
theorem gk_X8_124 : zLkV RX8 124 mX7_worthOf 1 := ⟨goodIn_r _ [525, 526, 527, 32, 528] (by decide +kernel) (by decide +kernel), by unfold zNm; decide +kernel⟩
theorem gk_X8_127 : zLkV RX8 127 mX8_twoFault 2 := ⟨goodIn_r _ [545, 546, 547, 2, 548] (by decide +kernel) (by decide +kernel), by unfold zNm; decide +kernel⟩
theorem gk_X8_130 : zLkV RX8 130 mX7_canLend 2 := ⟨goodIn_r _ [549, 290, 291, 32, 292] (by decide +kernel) (by decide +kernel), by unfold zNm; decide +kernel⟩
theorem gk_X8_134 : zLkV RX8 134 mX7_handOver 2 := ⟨goodIn_r _ [550, 298, 299, 32, 300] (by decide +kernel) (by decide +kernel), by unfold zNm; decide +kernel⟩
theorem gk_X8_138 : zLkV RX8 138 mX7_lentFaces 0 := ⟨goodIn_r _ [551, 552, 553, 32, 554] (by decide +kernel) (by decide +kernel), by unfold zNm; decide +kernel⟩
theorem gk_X8_142 : zLkV RX8 142 mX7_isLent 1 := ⟨goodIn_r _ [566, 305, 306, 32, 307] (by decide +kernel) (by decide +kernel), by unfold zNm; decide +kernel⟩
theorem gk_X8_145 : zLkV RX8 145 mX7_bringBack 1 := ⟨goodIn_r _ [567, 309, 310, 32, 311] (by decide +kernel) (by decide +kernel), by unfold zNm; decide +kernel⟩
theorem gk_X8_148 : zLkV RX8 148 mX7_turnKnowing 2 := ⟨goodIn_r _ [576, 320, 321, 32, 322] (by decide +kernel) (by decide +kernel), by unfold zNm; decide +kernel⟩
theorem gk_X8_151 : zLkV RX8 151 mX7_knowsFace 2 := ⟨goodIn_r _ [577, 578, 579, 32, 580] (by decide +kernel) (by decide +kernel), by unfold zNm; decide +kernel⟩
theorem gk_X8_154 : zLkS RX8 154 mX8_firstOfThree 3 := ⟨goodIn_r _ [589, 590, 2, 591] (by decide +kernel) (by decide +kernel), by unfold zNm; decide +kernel⟩
theorem gk_X8_166 : zLkV RX8 166 mX7_goOn 1 := ⟨goodIn_r _ [611, 334, 335, 32, 336] (by decide +kernel) (by decide +kernel), by unfold zNm; decide +kernel⟩
theorem gk_X8_170 : zLkV RX8 170 mX8_think 1 := ⟨goodIn_r _ [620, 621, 622, 2, 623] (by decide +kernel) (by decide +kernel), by unfold zNm; decide +kernel⟩
theorem gk_X8_173 : zLkV RX8 173 mX8_monthsTillHome 0 := ⟨goodIn_r _ [640, 641, 642, 2, 643] (by decide +kernel) (by decide +kernel), by unfold zNm; decide +kernel⟩
theorem gk_X8_176 : zLkV RX8 176 mX8_firstWithoutFame 1 := ⟨goodIn_r _ [648, 649, 650, 2, 651] (by decide +kernel) (by decide +kernel), by unfold zNm; decide +kernel⟩
theorem gk_X8_179 : zLkV RX8 179 mX7_allWearTheirOwn 0 := ⟨goodIn_r _ [644, 645, 646, 32, 647] (by decide +kernel) (by decide +kernel), by unfold zNm; decide +kernel⟩
theorem gk_X8_183 : zLkV RX8 183 mX7_faceWithoutFame 0 := ⟨goodIn_r _ [652, 653, 654, 32, 655] (by decide +kernel) (by decide +kernel), by unfold zNm; decide +kernel⟩
theorem gk_X8_186 : zLkV RX8 186 mX7_takenFor 2 := ⟨goodIn_r _ [667, 668, 669, 32, 670] (by decide +kernel) (by decide +kernel), by unfold zNm; decide +kernel⟩
theorem gk_X8_189 : zLkV RX8 189 mX7_wearsOwn 1 := ⟨goodIn_r _ [684, 294, 295, 32, 296] (by decide +kernel) (by decide +kernel), by unfold zNm; decide +kernel⟩
theorem gk_X8_195 : zLkV RX8 195 mX7_wearersOfOthers 0 := ⟨goodIn_r _ [764, 765, 766, 32, 767] (by decide +kernel) (by decide +kernel), by unfold zNm; decide +kernel⟩
theorem gk_X8_198 : zLkV RX8 198 mX7_plainWearers 0 := ⟨goodIn_r _ [768, 769, 770, 32, 771] (by decide +kernel) (by decide +kernel), by unfold zNm; decide +kernel⟩
theorem gk_X8_201 : zLkV RX8 201 mX7_facesSeen 0 := ⟨goodIn_r _ [772, 773, 774, 32, 775] (by decide +kernel) (by decide +kernel), by unfold zNm; decide +kernel⟩
theorem gk_X8_204 : zLkV RX8 204 mX7_wearerOf 1 := ⟨goodIn_r _ [847, 313, 314, 32, 315] (by decide +kernel) (by decide +kernel), by unfold zNm; decide +kernel⟩
theorem gk_X8_207 : zLkV RX8 207 mX7_lookAlike 2 := ⟨goodIn_r _ [856, 857, 858, 32, 859] (by decide +kernel) (by decide +kernel), by unfold zNm; decide +kernel⟩
theorem gk_X8_210 : zLkV RX8 210 mX8_bestPartner 4 := ⟨goodIn_r _ [701, 702, 703, 2, 704] (by decide +kernel) (by decide +kernel), by unfold zNm; decide +kernel⟩
theorem gk_X8_214 : zLkV RX8 214 mX8_thinkOfLending 3 := ⟨goodIn_r _ [705, 706, 707, 2, 708] (by decide +kernel) (by decide +kernel), by unfold zNm; decide +kernel⟩
theorem gk_X8_218 : zLkV RX8 218 mX7_allWorths 0 := ⟨goodIn_r _ [740, 741, 742, 32, 743] (by decide +kernel) (by decide +kernel), by unfold zNm; decide +kernel⟩
theorem gk_X8_221 : zLkV RX8 221 mX8_findFree 0 := ⟨goodIn_r _ [787, 788, 789, 2, 790] (by decide +kernel) (by decide +kernel), by unfold zNm; decide +kernel⟩
theorem gk_X8_224 : zLkV RX8 224 mX8_worthsOfLot 2 := ⟨goodIn_r _ [791, 792, 793, 2, 794] (by decide +kernel) (by decide +kernel), by unfold zNm; decide +kernel⟩
theorem gk_X8_227 : zLkV RX8 227 mX8_firstLenderBringing 2 := ⟨goodIn_r _ [808, 809, 810, 2, 811] (by decide +kernel) (by decide +kernel), by unfold zNm; decide +kernel⟩
theorem gk_X8_230 : zLkV RX8 230 mX8_firstSettledChoice 0 := ⟨goodIn_r _ [868, 869, 870, 2, 871] (by decide +kernel) (by decide +kernel), by unfold zNm; decide +kernel⟩
theorem gk_X8_233 : zLkS RX8 233 mX8_leastFault 2 := ⟨goodIn_r _ [101, 102, 2, 103] (by decide +kernel) (by decide +kernel), by unfold zNm; decide +kernel⟩
theorem gk_X8_236 : zLkS RX8 236 mX8_mostFault 2 := ⟨goodIn_r _ [104, 105, 2, 106] (by decide +kernel) (by decide +kernel), by unfold zNm; decide +kernel⟩
theorem gk_X8_239 : zLkV RX8 239 mX8_refuseLong 1 := ⟨goodIn_r _ [884, 885, 886, 2, 887] (by decide +kernel) (by decide +kernel), by unfold zNm; decide +kernel⟩
theorem gk_X8_243 : zLkS RX8 243 mX8_waysOfScars 4 := ⟨goodIn_r _ [889, 890, 2, 891] (by decide +kernel) (by decide +kernel), by unfold zNm; decide +kernel⟩
theorem gk_X8_247 : zLkS RX8 247 mX8_power 2 := ⟨goodIn_r _ [892, 893, 2, 894] (by decide +kernel) (by decide +kernel), by unfold zNm; decide +kernel⟩
theorem gk_X8_251 : zLkS RX8 251 mX8_partOfFraction 3 := ⟨goodIn_r _ [895, 896, 2, 897] (by decide +kernel) (by decide +kernel), by unfold zNm; decide +kernel⟩
theorem gk_X8_260 : zLkV RX8 260 mX7_allFame 0 := ⟨goodIn_r _ [920, 745, 746, 32, 747] (by decide +kernel) (by decide +kernel), by unfold zNm; decide +kernel⟩
theorem gk_X8_266 : zLkS RX8 266 mX8_greatestShared 2 := ⟨goodIn_r _ [898, 899, 2, 900] (by decide +kernel) (by decide +kernel), by unfold zNm; decide +kernel⟩
theorem gk_X8_270 : zLkV RX8 270 mX8_wearingFits 2 := ⟨goodIn_r _ [832, 833, 834, 2, 835] (by decide +kernel) (by decide +kernel), by unfold zNm; decide +kernel⟩
theorem gk_X8_273 : zLkV RX8 273 mX7_changeOfFame 2 := ⟨goodIn_r _ [836, 342, 343, 32, 344] (by decide +kernel) (by decide +kernel), by unfold zNm; decide +kernel⟩
theorem gk_X8_276 : zLkS RX8 276 mX8_withinMarks 1 := ⟨goodIn_r _ [837, 374, 2, 375] (by decide +kernel) (by decide +kernel), by unfold zNm; decide +kernel⟩
theorem gk_X8_279 : zLkV RX8 279 mX8_mindFits 1 := ⟨goodIn_r _ [932, 933, 934, 2, 935] (by decide +kernel) (by decide +kernel), by unfold zNm; decide +kernel⟩
theorem gk_X8_282 : zLkV RX8 282 mX8_drawTown 1 := ⟨goodIn_r _ [968, 969, 970, 2, 971] (by decide +kernel) (by decide +kernel), by unfold zNm; decide +kernel⟩
theorem gk_X8_285 : zLkV RX8 285 mX7_allScars 0 := ⟨goodIn_r _ [981, 753, 754, 32, 755] (by decide +kernel) (by decide +kernel), by unfold zNm; decide +kernel⟩
theorem gk_X8_288 : zLkS RX8 288 mX8_nextSeed 1 := ⟨goodIn_r _ [972, 973, 2, 974] (by decide +kernel) (by decide +kernel), by unfold zNm; decide +kernel⟩
theorem gk_X8_291 : zLkS RX8 291 mX8_drawBelow 2 := ⟨goodIn_r _ [977, 978, 2, 979] (by decide +kernel) (by decide +kernel), by unfold zNm; decide +kernel⟩
theorem gk_X8_299 : zLkV RX8 299 mX7_isThere 1 := ⟨goodIn_r _ [493, 286, 287, 32, 288] (by decide +kernel) (by decide +kernel), by unfold zNm; decide +kernel⟩
theorem gk_X9_38 : zLkV RX9 38 mX9_no 1 := ⟨goodIn_r _ [123, 124, 125, 5, 126] (by decide +kernel) (by decide +kernel), by unfold zNm; decide +kernel⟩
theorem gk_X9_44 : zLkS RX9 44 mX9_isIn 3 := ⟨goodIn_r _ [424, 425, 5, 426] (by decide +kernel) (by decide +kernel), by unfold zNm; decide +kernel⟩
theorem gk_X9_48 : zLkV RX9 48 mX9_isOne 1 := ⟨goodIn_r _ [445, 446, 447, 5, 448] (by decide +kernel) (by decide +kernel), by unfold zNm; decide +kernel⟩
theorem gk_X9_52 : zLkS RX9 52 mX9_of 2 := ⟨goodIn_r _ [438, 439, 5, 440] (by decide +kernel) (by decide +kernel), by unfold zNm; decide +kernel⟩
theorem gk_X9_56 : zLkS RX9 56 mX9_has 2 := ⟨goodIn_r _ [476, 477, 5, 478] (by decide +kernel) (by decide +kernel), by unfold zNm; decide +kernel⟩
theorem gk_X9_60 : zLkS RX9 60 mX9_knowing 3 := ⟨goodIn_r _ [473, 474, 5, 475] (by decide +kernel) (by decide +kernel), by unfold zNm; decide +kernel⟩
theorem gk_X9_64 : zLkS RX9 64 mX9_wearsOwn 2 := ⟨goodIn_r _ [452, 453, 5, 454] (by decide +kernel) (by decide +kernel), by unfold zNm; decide +kernel⟩
theorem gk_X9_68 : zLkS RX9 68 mX9_wearerOf 2 := ⟨goodIn_r _ [461, 462, 5, 463] (by decide +kernel) (by decide +kernel), by unfold zNm; decide +kernel⟩
theorem gk_X9_72 : zLkS RX9 72 mX9_fameBy 3 := ⟨goodIn_r _ [470, 471, 5, 472] (by decide +kernel) (by decide +kernel), by unfold zNm; decide +kernel⟩
theorem gk_X9_75 : zLkS RX9 75 mX9_held 1 := ⟨goodIn_r _ [479, 480, 5, 481] (by decide +kernel) (by decide +kernel), by unfold zNm; decide +kernel⟩
theorem gk_X9_78 : zLkS RX9 78 mX9_scarsBy 2 := ⟨goodIn_r _ [482, 483, 5, 484] (by decide +kernel) (by decide +kernel), by unfold zNm; decide +kernel⟩
theorem gk_X9_81 : zLkS RX9 81 mX9_comesBack 2 := ⟨goodIn_r _ [458, 459, 5, 460] (by decide +kernel) (by decide +kernel), by unfold zNm; decide +kernel⟩
theorem gk_X9_84 : zLkS RX9 84 mX9_month 1 := ⟨goodIn_r _ [467, 468, 5, 469] (by decide +kernel) (by decide +kernel), by unfold zNm; decide +kernel⟩
theorem gk_X9_88 : zLkS RX9 88 mX9_worthIn 2 := ⟨goodIn_r _ [533, 534, 5, 535] (by decide +kernel) (by decide +kernel), by unfold zNm; decide +kernel⟩
theorem gk_X9_98 : zLkV RX9 98 mX9_here 0 := ⟨goodIn_r _ [409, 410, 411, 5, 412] (by decide +kernel) (by decide +kernel), by unfold zNm; decide +kernel⟩
theorem gk_X9_102 : zLkS RX9 102 mX9_kindBy 1 := ⟨goodIn_r _ [417, 418, 5, 419] (by decide +kernel) (by decide +kernel), by unfold zNm; decide +kernel⟩
theorem gk_X9_105 : zLkV RX9 105 mX9_readsKind 0 := ⟨goodIn_r _ [413, 414, 415, 5, 416] (by decide +kernel) (by decide +kernel), by unfold zNm; decide +kernel⟩
theorem gk_X9_109 : zLkV RX9 109 mX9_readsNumber 2 := ⟨goodIn_r _ [420, 421, 422, 5, 423] (by decide +kernel) (by decide +kernel), by unfold zNm; decide +kernel⟩
theorem gk_X9_112 : zLkV RX9 112 mX9_adds 2 := ⟨goodIn_r _ [434, 435, 436, 5, 437] (by decide +kernel) (by decide +kernel), by unfold zNm; decide +kernel⟩
theorem gk_X9_115 : zLkV RX9 115 mX9_areTwo 2 := ⟨goodIn_r _ [441, 442, 443, 5, 444] (by decide +kernel) (by decide +kernel), by unfold zNm; decide +kernel⟩
theorem gk_X9_118 : zLkS RX9 118 mX9_canLend 3 := ⟨goodIn_r _ [449, 450, 5, 451] (by decide +kernel) (by decide +kernel), by unfold zNm; decide +kernel⟩
theorem gk_X9_122 : zLkS RX9 122 mX9_lendsIn 3 := ⟨goodIn_r _ [455, 456, 5, 457] (by decide +kernel) (by decide +kernel), by unfold zNm; decide +kernel⟩
theorem gk_X9_126 : zLkS RX9 126 mX9_monthsOn 2 := ⟨goodIn_r _ [464, 465, 5, 466] (by decide +kernel) (by decide +kernel), by unfold zNm; decide +kernel⟩
theorem gk_X9_130 : zLkV RX9 130 mX9_readsStatement 0 := ⟨goodIn_r _ [405, 406, 407, 5, 408] (by decide +kernel) (by decide +kernel), by unfold zNm; decide +kernel⟩
theorem gk_X9_133 : zLkS RX9 133 mX9_copies 2 := ⟨goodIn_r _ [427, 428, 5, 429] (by decide +kernel) (by decide +kernel), by unfold zNm; decide +kernel⟩
theorem gk_X9_137 : zLkV RX9 137 mX9_isDone 1 := ⟨goodIn_r _ [430, 431, 432, 5, 433] (by decide +kernel) (by decide +kernel), by unfold zNm; decide +kernel⟩
theorem gk_X9_140 : zLkS RX9 140 mX9_faceIn 3 := ⟨goodIn_r _ [513, 514, 5, 515] (by decide +kernel) (by decide +kernel), by unfold zNm; decide +kernel⟩
theorem gk_X9_143 : zLkV RX9 143 mX9_noFar 1 := ⟨goodIn_r _ [536, 537, 538, 5, 539] (by decide +kernel) (by decide +kernel), by unfold zNm; decide +kernel⟩
theorem gk_X9_146 : zLkS RX9 146 mX9_lentIn 1 := ⟨goodIn_r _ [559, 560, 5, 561] (by decide +kernel) (by decide +kernel), by unfold zNm; decide +kernel⟩
theorem gk_X9_150 : zLkS RX9 150 mX9_wrongBy 2 := ⟨goodIn_r _ [596, 597, 5, 598] (by decide +kernel) (by decide +kernel), by unfold zNm; decide +kernel⟩
theorem gk_X9_153 : zLkS RX9 153 mX9_areHome 1 := ⟨goodIn_r _ [660, 661, 5, 662] (by decide +kernel) (by decide +kernel), by unfold zNm; decide +kernel⟩
theorem gk_X9_157 : zLkV RX9 157 mX9_meetsOne 2 := ⟨goodIn_r _ [676, 677, 678, 5, 679] (by decide +kernel) (by decide +kernel), by unfold zNm; decide +kernel⟩
theorem gk_X9_160 : zLkS RX9 160 mX9_worthAll 1 := ⟨goodIn_r _ [725, 726, 5, 727] (by decide +kernel) (by decide +kernel), by unfold zNm; decide +kernel⟩
theorem gk_X9_163 : zLkV RX9 163 mX9_worthBehind 2 := ⟨goodIn_r _ [721, 722, 723, 5, 724] (by decide +kernel) (by decide +kernel), by unfold zNm; decide +kernel⟩
theorem gk_X9_166 : zLkV RX9 166 mX9_wrongLend 2 := ⟨goodIn_r _ [713, 714, 715, 5, 716] (by decide +kernel) (by decide +kernel), by unfold zNm; decide +kernel⟩
theorem gk_X9_169 : zLkV RX9 169 mX9_worthNow 2 := ⟨goodIn_r _ [717, 718, 719, 5, 720] (by decide +kernel) (by decide +kernel), by unfold zNm; decide +kernel⟩
theorem gk_X9_172 : zLkS RX9 172 mX9_plainSet 1 := ⟨goodIn_r _ [780, 781, 5, 782] (by decide +kernel) (by decide +kernel), by unfold zNm; decide +kernel⟩
theorem gk_X9_175 : zLkV RX9 175 mX9_pairsBy 1 := ⟨goodIn_r _ [800, 801, 802, 5, 803] (by decide +kernel) (by decide +kernel), by unfold zNm; decide +kernel⟩
theorem gk_X9_179 : zLkV RX9 179 mX9_isFamedBehind 3 := ⟨goodIn_r _ [816, 817, 818, 5, 819] (by decide +kernel) (by decide +kernel), by unfold zNm; decide +kernel⟩
theorem gk_X9_182 : zLkV RX9 182 mX9_canBeBy 2 := ⟨goodIn_r _ [824, 825, 826, 5, 827] (by decide +kernel) (by decide +kernel), by unfold zNm; decide +kernel⟩
theorem gk_X9_185 : zLkV RX9 185 mX9_firstLender 3 := ⟨goodIn_r _ [820, 821, 822, 5, 823] (by decide +kernel) (by decide +kernel), by unfold zNm; decide +kernel⟩
theorem gk_X9_192 : zLkV RX9 192 mX9_worthBoth 6 := ⟨goodIn_r _ [876, 877, 878, 5, 879] (by decide +kernel) (by decide +kernel), by unfold zNm; decide +kernel⟩
theorem gk_X9_196 : zLkS RX9 196 mX9_gcd 2 := ⟨goodIn_r _ [913, 914, 5, 915] (by decide +kernel) (by decide +kernel), by unfold zNm; decide +kernel⟩
theorem gk_X9_200 : zLkV RX9 200 mX9_noWide 1 := ⟨goodIn_r _ [905, 906, 907, 5, 908] (by decide +kernel) (by decide +kernel), by unfold zNm; decide +kernel⟩
theorem gk_X9_204 : zLkS RX9 204 mX9_partOf 3 := ⟨goodIn_r _ [910, 911, 5, 912] (by decide +kernel) (by decide +kernel), by unfold zNm; decide +kernel⟩
theorem gk_X9_208 : zLkS RX9 208 mX9_allOf 2 := ⟨goodIn_r _ [925, 926, 5, 927] (by decide +kernel) (by decide +kernel), by unfold zNm; decide +kernel⟩
theorem gk_X9_217 : zLkV RX9 217 mX9_drawn 1 := ⟨goodIn_r _ [987, 988, 989, 5, 990] (by decide +kernel) (by decide +kernel), by unfold zNm; decide +kernel⟩
theorem gk_X6_19 : zLkV RX6 19 mX6_brokenPlace 0 := ⟨goodIn_r _ [139, 140, 141, 38, 142] (by decide +kernel) (by decide +kernel), by unfold zNm; decide +kernel⟩
theorem gk_X6_23 : zLkV RX6 23 mX6_comesTo 2 := ⟨goodIn_r _ [266, 267, 268, 38, 269] (by decide +kernel) (by decide +kernel), by unfold zNm; decide +kernel⟩
theorem gk_X6_27 : zLkS RX6 27 mX6_shapeOf 1 := ⟨goodIn_r _ [259, 260, 38, 261] (by decide +kernel) (by decide +kernel), by unfold zNm; decide +kernel⟩
theorem gk_X6_42 : zLkS RX6 42 mX6_fits 2 := ⟨goodIn_r _ [192, 193, 38, 194] (by decide +kernel) (by decide +kernel), by unfold zNm; decide +kernel⟩
theorem gk_X6_58 : zLkS RX6 58 mX6_kindOf 1 := ⟨goodIn_r _ [195, 196, 38, 197] (by decide +kernel) (by decide +kernel), by unfold zNm; decide +kernel⟩
theorem gk_X6_67 : zLkV RX6 67 mX6_signAt 1 := ⟨goodIn_r _ [270, 271, 272, 38, 273] (by decide +kernel) (by decide +kernel), by unfold zNm; decide +kernel⟩
theorem gk_X6_70 : zLkV RX6 70 mX6_digitAt 1 := ⟨goodIn_r _ [274, 275, 276, 38, 277] (by decide +kernel) (by decide +kernel), by unfold zNm; decide +kernel⟩
theorem gk_X6_73 : zLkV RX6 73 mX7_takesIn 2 := ⟨goodIn_r _ [278, 279, 280, 32, 281] (by decide +kernel) (by decide +kernel), by unfold zNm; decide +kernel⟩
theorem gk_X6_79 : zLkS RX6 79 mX6_lendingComes 3 := ⟨goodIn_r _ [282, 283, 38, 284] (by decide +kernel) (by decide +kernel), by unfold zNm; decide +kernel⟩
theorem gk_X6_83 : zLkS RX6 83 mX6_backComes 2 := ⟨goodIn_r _ [301, 302, 38, 303] (by decide +kernel) (by decide +kernel), by unfold zNm; decide +kernel⟩
theorem gk_X6_86 : zLkS RX6 86 mX6_knowingComes 3 := ⟨goodIn_r _ [316, 317, 38, 318] (by decide +kernel) (by decide +kernel), by unfold zNm; decide +kernel⟩
theorem gk_X6_89 : zLkV RX6 89 mX6_twoDigitsAt 1 := ⟨goodIn_r _ [323, 324, 325, 38, 326] (by decide +kernel) (by decide +kernel), by unfold zNm; decide +kernel⟩
theorem gk_X6_92 : zLkS RX6 92 mX6_fameComes 3 := ⟨goodIn_r _ [327, 328, 38, 329] (by decide +kernel) (by decide +kernel), by unfold zNm; decide +kernel⟩
theorem gk_X6_95 : zLkS RX6 95 mX6_monthsCome 2 := ⟨goodIn_r _ [330, 331, 38, 332] (by decide +kernel) (by decide +kernel), by unfold zNm; decide +kernel⟩
theorem gk_X6_98 : zLkV RX6 98 mX7_isThere 1 := ⟨goodIn_r _ [285, 286, 287, 32, 288] (by decide +kernel) (by decide +kernel), by unfold zNm; decide +kernel⟩
theorem gk_X6_102 : zLkV RX6 102 mX7_canLend 2 := ⟨goodIn_r _ [289, 290, 291, 32, 292] (by decide +kernel) (by decide +kernel), by unfold zNm; decide +kernel⟩
theorem gk_X6_105 : zLkV RX6 105 mX7_handOver 2 := ⟨goodIn_r _ [297, 298, 299, 32, 300] (by decide +kernel) (by decide +kernel), by unfold zNm; decide +kernel⟩
theorem gk_X6_109 : zLkV RX6 109 mX7_isLent 1 := ⟨goodIn_r _ [304, 305, 306, 32, 307] (by decide +kernel) (by decide +kernel), by unfold zNm; decide +kernel⟩
theorem gk_X6_112 : zLkV RX6 112 mX7_bringBack 1 := ⟨goodIn_r _ [308, 309, 310, 32, 311] (by decide +kernel) (by decide +kernel), by unfold zNm; decide +kernel⟩
theorem gk_X6_115 : zLkV RX6 115 mX7_turnKnowing 2 := ⟨goodIn_r _ [319, 320, 321, 32, 322] (by decide +kernel) (by decide +kernel), by unfold zNm; decide +kernel⟩
theorem gk_X6_121 : zLkN RX6 121 mX8_rangeFault 3 := ⟨List.mem_of_getElem? (i := 443) (by decide +kernel), goodIn_r _ [99, 2, 100] (by decide +kernel) (by decide +kernel), by unfold zNm; decide +kernel⟩
theorem gk_X6_128 : zLkV RX6 128 mX7_goOn 1 := ⟨goodIn_r _ [333, 334, 335, 32, 336] (by decide +kernel) (by decide +kernel), by unfold zNm; decide +kernel⟩
theorem gk_X7_44 : zLkV RX7 44 mX7_wearsOwn 1 := ⟨goodIn_r _ [293, 294, 295, 32, 296] (by decide +kernel) (by decide +kernel), by unfold zNm; decide +kernel⟩
theorem gk_X7_48 : zLkV RX7 48 mX7_wearerOf 1 := ⟨goodIn_r _ [312, 313, 314, 32, 315] (by decide +kernel) (by decide +kernel), by unfold zNm; decide +kernel⟩
theorem gk_X7_52 : zLkV RX7 52 mX7_knowsFace 2 := ⟨goodIn_r _ [671, 578, 579, 32, 580] (by decide +kernel) (by decide +kernel), by unfold zNm; decide +kernel⟩
theorem gk_X7_56 : zLkV RX7 56 mX7_knowersOf 1 := ⟨goodIn_r _ [345, 346, 347, 32, 348] (by decide +kernel) (by decide +kernel), by unfold zNm; decide +kernel⟩
theorem gk_X7_65 : zLkV RX7 65 mX7_wearForAMonth 1 := ⟨goodIn_r _ [337, 338, 339, 32, 340] (by decide +kernel) (by decide +kernel), by unfold zNm; decide +kernel⟩
theorem gk_X7_69 : zLkV RX7 69 mX7_keepLentForAMonth 1 := ⟨goodIn_r _ [394, 395, 396, 32, 397] (by decide +kernel) (by decide +kernel), by unfold zNm; decide +kernel⟩
theorem gk_X7_72 : zLkV RX7 72 mX7_changeOfFame 2 := ⟨goodIn_r _ [341, 342, 343, 32, 344] (by decide +kernel) (by decide +kernel), by unfold zNm; decide +kernel⟩
theorem gk_X7_75 : zLkN RX7 75 mX8_withinMarks 1 := ⟨List.mem_of_getElem? (i := 481) (by decide +kernel), goodIn_r _ [374, 2, 375] (by decide +kernel) (by decide +kernel), by unfold zNm; decide +kernel⟩
theorem gk_X7_81 : zLkV RX7 81 mX7_bringBack 1 := ⟨goodIn_r _ [398, 309, 310, 32, 311] (by decide +kernel) (by decide +kernel), by unfold zNm; decide +kernel⟩
theorem gk_X7_84 : zLkV RX7 84 mX7_isLent 1 := ⟨goodIn_r _ [399, 305, 306, 32, 307] (by decide +kernel) (by decide +kernel), by unfold zNm; decide +kernel⟩
theorem gk_X7_87 : zLkV RX7 87 mX7_sumOf 1 := ⟨goodIn_r _ [748, 749, 750, 32, 751] (by decide +kernel) (by decide +kernel), by unfold zNm; decide +kernel⟩
theorem gk_X7_91 : zLkV RX7 91 mX7_allFame 0 := ⟨goodIn_r _ [744, 745, 746, 32, 747] (by decide +kernel) (by decide +kernel), by unfold zNm; decide +kernel⟩
theorem gk_X7_95 : zLkV RX7 95 mX7_allScars 0 := ⟨goodIn_r _ [752, 753, 754, 32, 755] (by decide +kernel) (by decide +kernel), by unfold zNm; decide +kernel⟩
section ZFLD
variable {x : zCx} {M : zM} {post : Option Value → zSt → Prop} {pc : Nat} {lv : List (Nat × Value)} {st : List Value} {S : zSt}
theorem hf_X8_45 : Cond.fieldLink RX8 45 "EachLendsHisFace" "telling" "LEachLendsHisFace$Telling;" ∈ wsL_law := List.mem_of_getElem? (i := 39) (by decide +kernel)
theorem gf_X8_45 (hM : M.1.cls = RX8) (d : decode M.2.1 pc = .ok (.getfield 45, 3)) (kk : zZ x true M post (pc + 3) lv (.ref (zad x 32) :: st) S) : zZ x true M post pc lv (.ref (zad x 0) :: st) S := zgetr (j := 3) d (by decide) rfl rfl inlX8 rfl (by decide) (by rw [hM]; exact hf_X8_45) kk
theorem hf_X8_85 : Cond.fieldLinkNest RX8 85 "EachLendsHisFace$Telling" "size" "I" "EachLendsHisFace" ∈ lw_tbl := List.mem_of_getElem? (i := 170) (by decide +kernel)
theorem gf_X8_85 (hM : M.1.cls = RX8) (d : decode M.2.1 pc = .ok (.getfield 85, 3)) (kk : zZ x true M post (pc + 3) lv (.int (S.2 32 1) :: st) S) : zZ x true M post pc lv (.ref (zad x 32) :: st) S := zgetiN (j := 1) d (by decide) rfl rfl inlX6 rfl (by decide) (by rw [hM]; exact hf_X8_85) kk
theorem hf_X8_36 : Cond.fieldLink RX8 36 "EachLendsHisFace" "mind" "LEachLendsHisFace$Town;" ∈ wsL_law := List.mem_of_getElem? (i := 34) (by decide +kernel)
theorem gf_X8_36 (hM : M.1.cls = RX8) (d : decode M.2.1 pc = .ok (.getfield 36, 3)) (kk : zZ x true M post (pc + 3) lv (.ref (zad x 16) :: st) S) : zZ x true M post pc lv (.ref (zad x 0) :: st) S := zgetr (j := 1) d (by decide) rfl rfl inlX8 rfl (by decide) (by rw [hM]; exact hf_X8_36) kk
theorem hf_X8_30 : Cond.fieldLink RX8 30 "EachLendsHisFace" "now" "LEachLendsHisFace$Town;" ∈ wsL_law := List.mem_of_getElem? (i := 33) (by decide +kernel)
theorem gf_X8_30 (hM : M.1.cls = RX8) (d : decode M.2.1 pc = .ok (.getfield 30, 3)) (kk : zZ x true M post (pc + 3) lv (.ref (zad x 8) :: st) S) : zZ x true M post pc lv (.ref (zad x 0) :: st) S := zgetr (j := 0) d (by decide) rfl rfl inlX8 rfl (by decide) (by rw [hM]; exact hf_X8_30) kk
theorem pf_X8_85 {v : Int32} (hM : M.1.cls = RX8) (d : decode M.2.1 pc = .ok (.putfield 85, 3)) (kk : zZ x true M post (pc + 3) lv st (S.1, u2 S.2 32 1 v)) : zZ x true M post pc lv (.int v :: .ref (zad x 32) :: st) S := zputiN (j := 1) (ty := .int) d (by decide) rfl rfl inlX6 tyX6 tyX6_ok nmX6 rfl (by decide) (by rw [hM]; exact hf_X8_85) rfl (by decide +kernel) rfl rfl kk
theorem hf_X8_106 : Cond.fieldLinkNest RX8 106 "EachLendsHisFace$Town" "kind" "[I" "EachLendsHisFace" ∈ lw_tbl := List.mem_of_getElem? (i := 122) (by decide +kernel)
theorem gf_X8_106 {t : Nat} (ht : t < 3) (hM : M.1.cls = RX8) (d : decode M.2.1 pc = .ok (.getfield 106, 3)) (kk : zZ x true M post (pc + 3) lv (.ref (zad x (tp t + 1)) :: st) S) : zZ x true M post pc lv (.ref (zad x (tp t)) :: st) S := zgetrN (j := 1) d (tpk0 ht) (tpl ht) rfl inlX7 rfl (by decide) (by rw [hM]; exact hf_X8_106) kk
theorem hf_X8_109 : Cond.fieldLinkNest RX8 109 "EachLendsHisFace$Town" "figure" "[I" "EachLendsHisFace" ∈ lw_tbl := List.mem_of_getElem? (i := 124) (by decide +kernel)
theorem gf_X8_109 {t : Nat} (ht : t < 3) (hM : M.1.cls = RX8) (d : decode M.2.1 pc = .ok (.getfield 109, 3)) (kk : zZ x true M post (pc + 3) lv (.ref (zad x (tp t + 2)) :: st) S) : zZ x true M post pc lv (.ref (zad x (tp t)) :: st) S := zgetrN (j := 2) d (tpk0 ht) (tpl ht) rfl inlX7 rfl (by decide) (by rw [hM]; exact hf_X8_109) kk
theorem hf_X8_112 : Cond.fieldLinkNest RX8 112 "EachLendsHisFace$Town" "known" "[I" "EachLendsHisFace" ∈ lw_tbl := List.mem_of_getElem? (i := 126) (by decide +kernel)
theorem gf_X8_112 {t : Nat} (ht : t < 3) (hM : M.1.cls = RX8) (d : decode M.2.1 pc = .ok (.getfield 112, 3)) (kk : zZ x true M post (pc + 3) lv (.ref (zad x (tp t + 3)) :: st) S) : zZ x true M post pc lv (.ref (zad x (tp t)) :: st) S := zgetrN (j := 3) d (tpk0 ht) (tpl ht) rfl inlX7 rfl (by decide) (by rw [hM]; exact hf_X8_112) kk
theorem hf_X8_115 : Cond.fieldLinkNest RX8 115 "EachLendsHisFace$Town" "worn" "[I" "EachLendsHisFace" ∈ lw_tbl := List.mem_of_getElem? (i := 128) (by decide +kernel)
theorem gf_X8_115 {t : Nat} (ht : t < 3) (hM : M.1.cls = RX8) (d : decode M.2.1 pc = .ok (.getfield 115, 3)) (kk : zZ x true M post (pc + 3) lv (.ref (zad x (tp t + 4)) :: st) S) : zZ x true M post pc lv (.ref (zad x (tp t)) :: st) S := zgetrN (j := 4) d (tpk0 ht) (tpl ht) rfl inlX7 rfl (by decide) (by rw [hM]; exact hf_X8_115) kk
theorem hf_X8_157 : Cond.fieldLinkNest RX8 157 "EachLendsHisFace$Town" "fame" "[I" "EachLendsHisFace" ∈ lw_tbl := List.mem_of_getElem? (i := 130) (by decide +kernel)
theorem gf_X8_157 {t : Nat} (ht : t < 3) (hM : M.1.cls = RX8) (d : decode M.2.1 pc = .ok (.getfield 157, 3)) (kk : zZ x true M post (pc + 3) lv (.ref (zad x (tp t + 5)) :: st) S) : zZ x true M post pc lv (.ref (zad x (tp t)) :: st) S := zgetrN (j := 5) d (tpk0 ht) (tpl ht) rfl inlX7 rfl (by decide) (by rw [hM]; exact hf_X8_157) kk
theorem hf_X8_160 : Cond.fieldLinkNest RX8 160 "EachLendsHisFace$Town" "scars" "[I" "EachLendsHisFace" ∈ lw_tbl := List.mem_of_getElem? (i := 133) (by decide +kernel)
theorem gf_X8_160 {t : Nat} (ht : t < 3) (hM : M.1.cls = RX8) (d : decode M.2.1 pc = .ok (.getfield 160, 3)) (kk : zZ x true M post (pc + 3) lv (.ref (zad x (tp t + 6)) :: st) S) : zZ x true M post pc lv (.ref (zad x (tp t)) :: st) S := zgetrN (j := 6) d (tpk0 ht) (tpl ht) rfl inlX7 rfl (by decide) (by rw [hM]; exact hf_X8_160) kk
theorem hf_X8_163 : Cond.fieldLinkNest RX8 163 "EachLendsHisFace$Town" "month" "I" "EachLendsHisFace" ∈ lw_tbl := List.mem_of_getElem? (i := 138) (by decide +kernel)
theorem gf_X8_163 {t : Nat} (ht : t < 3) (hM : M.1.cls = RX8) (d : decode M.2.1 pc = .ok (.getfield 163, 3)) (kk : zZ x true M post (pc + 3) lv (.int (S.2 (tp t) 9) :: st) S) : zZ x true M post pc lv (.ref (zad x (tp t)) :: st) S := zgetiN (j := 9) d (tpk0 ht) (tpl ht) rfl inlX7 rfl (by decide) (by rw [hM]; exact hf_X8_163) kk
theorem hf_X8_192 : Cond.fieldLinkNest RX8 192 "EachLendsHisFace$Town" "people" "I" "EachLendsHisFace" ∈ lw_tbl := List.mem_of_getElem? (i := 136) (by decide +kernel)
theorem gf_X8_192 {t : Nat} (ht : t < 3) (hM : M.1.cls = RX8) (d : decode M.2.1 pc = .ok (.getfield 192, 3)) (kk : zZ x true M post (pc + 3) lv (.int (S.2 (tp t) 8) :: st) S) : zZ x true M post pc lv (.ref (zad x (tp t)) :: st) S := zgetiN (j := 8) d (tpk0 ht) (tpl ht) rfl inlX7 rfl (by decide) (by rw [hM]; exact hf_X8_192) kk
theorem hf_X8_56 : Cond.fieldLink RX8 56 "EachLendsHisFace" "free" "[I" ∈ wsL_law := List.mem_of_getElem? (i := 43) (by decide +kernel)
theorem gf_X8_56 (hM : M.1.cls = RX8) (d : decode M.2.1 pc = .ok (.getfield 56, 3)) (kk : zZ x true M post (pc + 3) lv (.ref (zad x 36) :: st) S) : zZ x true M post pc lv (.ref (zad x 0) :: st) S := zgetr (j := 6) d (by decide) rfl rfl inlX8 rfl (by decide) (by rw [hM]; exact hf_X8_56) kk
theorem hf_X8_59 : Cond.fieldLink RX8 59 "EachLendsHisFace" "firstWorths" "[I" ∈ wsL_law := List.mem_of_getElem? (i := 44) (by decide +kernel)
theorem gf_X8_59 (hM : M.1.cls = RX8) (d : decode M.2.1 pc = .ok (.getfield 59, 3)) (kk : zZ x true M post (pc + 3) lv (.ref (zad x 37) :: st) S) : zZ x true M post pc lv (.ref (zad x 0) :: st) S := zgetr (j := 7) d (by decide) rfl rfl inlX8 rfl (by decide) (by rw [hM]; exact hf_X8_59) kk
theorem hf_X8_62 : Cond.fieldLink RX8 62 "EachLendsHisFace" "otherWorths" "[I" ∈ wsL_law := List.mem_of_getElem? (i := 45) (by decide +kernel)
theorem gf_X8_62 (hM : M.1.cls = RX8) (d : decode M.2.1 pc = .ok (.getfield 62, 3)) (kk : zZ x true M post (pc + 3) lv (.ref (zad x 38) :: st) S) : zZ x true M post pc lv (.ref (zad x 0) :: st) S := zgetr (j := 8) d (by decide) rfl rfl inlX8 rfl (by decide) (by rw [hM]; exact hf_X8_62) kk
theorem hf_X8_65 : Cond.fieldLink RX8 65 "EachLendsHisFace" "toldSize" "I" ∈ wsL_law := List.mem_of_getElem? (i := 46) (by decide +kernel)
theorem gf_X8_65 (hM : M.1.cls = RX8) (d : decode M.2.1 pc = .ok (.getfield 65, 3)) (kk : zZ x true M post (pc + 3) lv (.int (S.2 0 9) :: st) S) : zZ x true M post pc lv (.ref (zad x 0) :: st) S := zgeti (j := 9) d (by decide) rfl rfl inlX8 rfl (by decide) (by rw [hM]; exact hf_X8_65) kk
theorem hf_X8_49 : Cond.fieldLink RX8 49 "EachLendsHisFace" "told" "[I" ∈ wsL_law := List.mem_of_getElem? (i := 41) (by decide +kernel)
theorem gf_X8_49 (hM : M.1.cls = RX8) (d : decode M.2.1 pc = .ok (.getfield 49, 3)) (kk : zZ x true M post (pc + 3) lv (.ref (zad x 34) :: st) S) : zZ x true M post pc lv (.ref (zad x 0) :: st) S := zgetr (j := 4) d (by decide) rfl rfl inlX8 rfl (by decide) (by rw [hM]; exact hf_X8_49) kk
theorem pf_X8_65 {v : Int32} (hM : M.1.cls = RX8) (d : decode M.2.1 pc = .ok (.putfield 65, 3)) (kk : zZ x true M post (pc + 3) lv st (S.1, u2 S.2 0 9 v)) : zZ x true M post pc lv (.int v :: .ref (zad x 0) :: st) S := zputi (j := 9) (ty := .int) d (by decide) rfl rfl inlX8 tyX8 tyX8_ok nmX8 rfl (by decide) (by rw [hM]; exact hf_X8_65) rfl (by decide +kernel) rfl rfl kk
theorem hf_X8_39 : Cond.fieldLink RX8 39 "EachLendsHisFace" "kept" "LEachLendsHisFace$Town;" ∈ wsL_law := List.mem_of_getElem? (i := 35) (by decide +kernel)
theorem gf_X8_39 (hM : M.1.cls = RX8) (d : decode M.2.1 pc = .ok (.getfield 39, 3)) (kk : zZ x true M post (pc + 3) lv (.ref (zad x 24) :: st) S) : zZ x true M post pc lv (.ref (zad x 0) :: st) S := zgetr (j := 2) d (by decide) rfl rfl inlX8 rfl (by decide) (by rw [hM]; exact hf_X8_39) kk
theorem hf_X8_69 : Cond.fieldLink RX8 69 "EachLendsHisFace" "hasKept" "Z" ∈ wsL_law := List.mem_of_getElem? (i := 47) (by decide +kernel)
theorem pf_X8_69 {v : Int32} (hM : M.1.cls = RX8) (d : decode M.2.1 pc = .ok (.putfield 69, 3)) (hn : narrow .boolean (.int v) = .int v) (hfit : fits .boolean (.int v) = true) (kk : zZ x true M post (pc + 3) lv st (S.1, u2 S.2 0 10 v)) : zZ x true M post pc lv (.int v :: .ref (zad x 0) :: st) S := zputi (j := 10) (ty := .boolean) d (by decide) rfl rfl inlX8 tyX8 tyX8_ok nmX8 rfl (by decide) (by rw [hM]; exact hf_X8_69) rfl (by decide +kernel) hn hfit kk
theorem gf_X8_69 (hM : M.1.cls = RX8) (d : decode M.2.1 pc = .ok (.getfield 69, 3)) (kk : zZ x true M post (pc + 3) lv (.int (S.2 0 10) :: st) S) : zZ x true M post pc lv (.ref (zad x 0) :: st) S := zgeti (j := 10) d (by decide) rfl rfl inlX8 rfl (by decide) (by rw [hM]; exact hf_X8_69) kk
theorem hf_X8_53 : Cond.fieldLink RX8 53 "EachLendsHisFace" "refusals" "[I" ∈ wsL_law := List.mem_of_getElem? (i := 42) (by decide +kernel)
theorem gf_X8_53 (hM : M.1.cls = RX8) (d : decode M.2.1 pc = .ok (.getfield 53, 3)) (kk : zZ x true M post (pc + 3) lv (.ref (zad x 35) :: st) S) : zZ x true M post pc lv (.ref (zad x 0) :: st) S := zgetr (j := 5) d (by decide) rfl rfl inlX8 rfl (by decide) (by rw [hM]; exact hf_X8_53) kk
theorem hf_X9_31 : Cond.fieldLink RX9 31 "EachLendsHisFaceModel" "refused" "[I" ∈ wsL_law := List.mem_of_getElem? (i := 92) (by decide +kernel)
theorem gf_X9_31 (hM : M.1.cls = RX9) (d : decode M.2.1 pc = .ok (.getfield 31, 3)) (kk : zZ x false M post (pc + 3) lv (.ref (zad x 8) :: st) S) : zZ x false M post pc lv (.ref (zad x 0) :: st) S := zgetr (j := 8) d (by decide) rfl rfl inlX9 rfl (by decide) (by rw [hM]; exact hf_X9_31) kk
theorem hf_X9_9 : Cond.fieldLink RX9 9 "EachLendsHisFaceModel" "s" "[I" ∈ wsL_law := List.mem_of_getElem? (i := 85) (by decide +kernel)
theorem gf_X9_9 (hM : M.1.cls = RX9) (d : decode M.2.1 pc = .ok (.getfield 9, 3)) (kk : zZ x false M post (pc + 3) lv (.ref (zad x 1) :: st) S) : zZ x false M post pc lv (.ref (zad x 0) :: st) S := zgetr (j := 0) d (by decide) rfl rfl inlX9 rfl (by decide) (by rw [hM]; exact hf_X9_9) kk
theorem hf_X9_91 : Cond.fieldLink RX9 91 "EachLendsHisFaceModel" "letterMany" "I" ∈ wsL_law := List.mem_of_getElem? (i := 122) (by decide +kernel)
theorem gf_X9_91 (hM : M.1.cls = RX9) (d : decode M.2.1 pc = .ok (.getfield 91, 3)) (kk : zZ x false M post (pc + 3) lv (.int (S.2 0 9) :: st) S) : zZ x false M post pc lv (.ref (zad x 0) :: st) S := zgeti (j := 9) d (by decide) rfl rfl inlX9 rfl (by decide) (by rw [hM]; exact hf_X9_91) kk
theorem hf_X9_25 : Cond.fieldLink RX9 25 "EachLendsHisFaceModel" "letters" "[I" ∈ wsL_law := List.mem_of_getElem? (i := 90) (by decide +kernel)
theorem gf_X9_25 (hM : M.1.cls = RX9) (d : decode M.2.1 pc = .ok (.getfield 25, 3)) (kk : zZ x false M post (pc + 3) lv (.ref (zad x 6) :: st) S) : zZ x false M post pc lv (.ref (zad x 0) :: st) S := zgetr (j := 6) d (by decide) rfl rfl inlX9 rfl (by decide) (by rw [hM]; exact hf_X9_25) kk
theorem pf_X9_91 {v : Int32} (hM : M.1.cls = RX9) (d : decode M.2.1 pc = .ok (.putfield 91, 3)) (kk : zZ x false M post (pc + 3) lv st (S.1, u2 S.2 0 9 v)) : zZ x false M post pc lv (.int v :: .ref (zad x 0) :: st) S := zputi (j := 9) (ty := .int) d (by decide) rfl rfl inlX9 tyX9 tyX9_ok nmX9 rfl (by decide) (by rw [hM]; exact hf_X9_91) rfl (by decide +kernel) rfl rfl kk
theorem hf_X9_95 : Cond.fieldLink RX9 95 "EachLendsHisFaceModel" "place" "I" ∈ wsL_law := List.mem_of_getElem? (i := 404) (by decide +kernel)
theorem gf_X9_95 (hM : M.1.cls = RX9) (d : decode M.2.1 pc = .ok (.getfield 95, 3)) (kk : zZ x false M post (pc + 3) lv (.int (S.2 0 11) :: st) S) : zZ x false M post pc lv (.ref (zad x 0) :: st) S := zgeti (j := 11) d (by decide) rfl rfl inlX9 rfl (by decide) (by rw [hM]; exact hf_X9_95) kk
theorem hf_X9_34 : Cond.fieldLink RX9 34 "EachLendsHisFaceModel" "numbers" "[I" ∈ wsL_law := List.mem_of_getElem? (i := 93) (by decide +kernel)
theorem gf_X9_34 (hM : M.1.cls = RX9) (d : decode M.2.1 pc = .ok (.getfield 34, 3)) (kk : zZ x false M post (pc + 3) lv (.ref (zad x 9) :: st) S) : zZ x false M post pc lv (.ref (zad x 0) :: st) S := zgetr (j := 12) d (by decide) rfl rfl inlX9 rfl (by decide) (by rw [hM]; exact hf_X9_34) kk
theorem pf_X9_95 {v : Int32} (hM : M.1.cls = RX9) (d : decode M.2.1 pc = .ok (.putfield 95, 3)) (kk : zZ x false M post (pc + 3) lv st (S.1, u2 S.2 0 11 v)) : zZ x false M post pc lv (.int v :: .ref (zad x 0) :: st) S := zputi (j := 11) (ty := .int) d (by decide) rfl rfl inlX9 tyX9 tyX9_ok nmX9 rfl (by decide) (by rw [hM]; exact hf_X9_95) rfl (by decide +kernel) rfl rfl kk
theorem hf_X9_19 : Cond.fieldLink RX9 19 "EachLendsHisFaceModel" "was" "[I" ∈ wsL_law := List.mem_of_getElem? (i := 88) (by decide +kernel)
theorem gf_X9_19 (hM : M.1.cls = RX9) (d : decode M.2.1 pc = .ok (.getfield 19, 3)) (kk : zZ x false M post (pc + 3) lv (.ref (zad x 4) :: st) S) : zZ x false M post pc lv (.ref (zad x 0) :: st) S := zgetr (j := 3) d (by decide) rfl rfl inlX9 rfl (by decide) (by rw [hM]; exact hf_X9_19) kk
theorem hf_X9_13 : Cond.fieldLink RX9 13 "EachLendsHisFaceModel" "m" "[I" ∈ wsL_law := List.mem_of_getElem? (i := 86) (by decide +kernel)
theorem gf_X9_13 (hM : M.1.cls = RX9) (d : decode M.2.1 pc = .ok (.getfield 13, 3)) (kk : zZ x false M post (pc + 3) lv (.ref (zad x 2) :: st) S) : zZ x false M post pc lv (.ref (zad x 0) :: st) S := zgetr (j := 1) d (by decide) rfl rfl inlX9 rfl (by decide) (by rw [hM]; exact hf_X9_13) kk
theorem hf_X9_22 : Cond.fieldLink RX9 22 "EachLendsHisFaceModel" "lent" "[I" ∈ wsL_law := List.mem_of_getElem? (i := 89) (by decide +kernel)
theorem gf_X9_22 (hM : M.1.cls = RX9) (d : decode M.2.1 pc = .ok (.getfield 22, 3)) (kk : zZ x false M post (pc + 3) lv (.ref (zad x 5) :: st) S) : zZ x false M post pc lv (.ref (zad x 0) :: st) S := zgetr (j := 4) d (by decide) rfl rfl inlX9 rfl (by decide) (by rw [hM]; exact hf_X9_22) kk
theorem hf_X9_189 : Cond.fieldLink RX9 189 "EachLendsHisFaceModel" "rowMany" "I" ∈ wsL_law := List.mem_of_getElem? (i := 842) (by decide +kernel)
theorem gf_X9_189 (hM : M.1.cls = RX9) (d : decode M.2.1 pc = .ok (.getfield 189, 3)) (kk : zZ x false M post (pc + 3) lv (.int (S.2 0 10) :: st) S) : zZ x false M post pc lv (.ref (zad x 0) :: st) S := zgeti (j := 10) d (by decide) rfl rfl inlX9 rfl (by decide) (by rw [hM]; exact hf_X9_189) kk
theorem hf_X9_28 : Cond.fieldLink RX9 28 "EachLendsHisFaceModel" "row" "[I" ∈ wsL_law := List.mem_of_getElem? (i := 91) (by decide +kernel)
theorem gf_X9_28 (hM : M.1.cls = RX9) (d : decode M.2.1 pc = .ok (.getfield 28, 3)) (kk : zZ x false M post (pc + 3) lv (.ref (zad x 7) :: st) S) : zZ x false M post pc lv (.ref (zad x 0) :: st) S := zgetr (j := 7) d (by decide) rfl rfl inlX9 rfl (by decide) (by rw [hM]; exact hf_X9_28) kk
theorem pf_X9_189 {v : Int32} (hM : M.1.cls = RX9) (d : decode M.2.1 pc = .ok (.putfield 189, 3)) (kk : zZ x false M post (pc + 3) lv st (S.1, u2 S.2 0 10 v)) : zZ x false M post pc lv (.int v :: .ref (zad x 0) :: st) S := zputi (j := 10) (ty := .int) d (by decide) rfl rfl inlX9 tyX9 tyX9_ok nmX9 rfl (by decide) (by rw [hM]; exact hf_X9_189) rfl (by decide +kernel) rfl rfl kk
theorem hf_X9_211 : Cond.fieldLink RX9 211 "EachLendsHisFaceModel" "seed" "I" ∈ wsL_law := List.mem_of_getElem? (i := 986) (by decide +kernel)
theorem gf_X9_211 (hM : M.1.cls = RX9) (d : decode M.2.1 pc = .ok (.getfield 211, 3)) (kk : zZ x false M post (pc + 3) lv (.int (S.2 0 13) :: st) S) : zZ x false M post pc lv (.ref (zad x 0) :: st) S := zgeti (j := 13) d (by decide) rfl rfl inlX9 rfl (by decide) (by rw [hM]; exact hf_X9_211) kk
theorem pf_X9_211 {v : Int32} (hM : M.1.cls = RX9) (d : decode M.2.1 pc = .ok (.putfield 211, 3)) (kk : zZ x false M post (pc + 3) lv st (S.1, u2 S.2 0 13 v)) : zZ x false M post pc lv (.int v :: .ref (zad x 0) :: st) S := zputi (j := 13) (ty := .int) d (by decide) rfl rfl inlX9 tyX9 tyX9_ok nmX9 rfl (by decide) (by rw [hM]; exact hf_X9_211) rfl (by decide +kernel) rfl rfl kk
theorem hf_X9_16 : Cond.fieldLink RX9 16 "EachLendsHisFaceModel" "image" "[I" ∈ wsL_law := List.mem_of_getElem? (i := 87) (by decide +kernel)
theorem gf_X9_16 (hM : M.1.cls = RX9) (d : decode M.2.1 pc = .ok (.getfield 16, 3)) (kk : zZ x false M post (pc + 3) lv (.ref (zad x 3) :: st) S) : zZ x false M post pc lv (.ref (zad x 0) :: st) S := zgetr (j := 2) d (by decide) rfl rfl inlX9 rfl (by decide) (by rw [hM]; exact hf_X9_16) kk
theorem hf_X9_220 : Cond.fieldLink RX9 220 "EachLendsHisFaceModel" "hasImage" "Z" ∈ wsL_law := List.mem_of_getElem? (i := 1002) (by decide +kernel)
theorem pf_X9_220 {v : Int32} (hM : M.1.cls = RX9) (d : decode M.2.1 pc = .ok (.putfield 220, 3)) (hn : narrow .boolean (.int v) = .int v) (hfit : fits .boolean (.int v) = true) (kk : zZ x false M post (pc + 3) lv st (S.1, u2 S.2 0 5 v)) : zZ x false M post pc lv (.int v :: .ref (zad x 0) :: st) S := zputi (j := 5) (ty := .boolean) d (by decide) rfl rfl inlX9 tyX9 tyX9_ok nmX9 rfl (by decide) (by rw [hM]; exact hf_X9_220) rfl (by decide +kernel) hn hfit kk
theorem gf_X9_220 (hM : M.1.cls = RX9) (d : decode M.2.1 pc = .ok (.getfield 220, 3)) (kk : zZ x false M post (pc + 3) lv (.int (S.2 0 5) :: st) S) : zZ x false M post pc lv (.ref (zad x 0) :: st) S := zgeti (j := 5) d (by decide) rfl rfl inlX9 rfl (by decide) (by rw [hM]; exact hf_X9_220) kk
theorem hf_X6_15 : Cond.fieldLink RX6 15 "EachLendsHisFace$Telling" "size" "I" ∈ wsL_law := List.mem_of_getElem? (i := 80) (by decide +kernel)
theorem gf_X6_15 (hM : M.1.cls = RX6) (d : decode M.2.1 pc = .ok (.getfield 15, 3)) (kk : zZ x true M post (pc + 3) lv (.int (S.2 32 1) :: st) S) : zZ x true M post pc lv (.ref (zad x 32) :: st) S := zgeti (j := 1) d (by decide) rfl rfl inlX6 rfl (by decide) (by rw [hM]; exact hf_X6_15) kk
theorem hf_X6_9 : Cond.fieldLink RX6 9 "EachLendsHisFace$Telling" "letters" "[I" ∈ wsL_law := List.mem_of_getElem? (i := 79) (by decide +kernel)
theorem gf_X6_9 (hM : M.1.cls = RX6) (d : decode M.2.1 pc = .ok (.getfield 9, 3)) (kk : zZ x true M post (pc + 3) lv (.ref (zad x 33) :: st) S) : zZ x true M post pc lv (.ref (zad x 32) :: st) S := zgetr (j := 0) d (by decide) rfl rfl inlX6 rfl (by decide) (by rw [hM]; exact hf_X6_9) kk
theorem pf_X6_15 {v : Int32} (hM : M.1.cls = RX6) (d : decode M.2.1 pc = .ok (.putfield 15, 3)) (kk : zZ x true M post (pc + 3) lv st (S.1, u2 S.2 32 1 v)) : zZ x true M post pc lv (.int v :: .ref (zad x 32) :: st) S := zputi (j := 1) (ty := .int) d (by decide) rfl rfl inlX6 tyX6 tyX6_ok nmX6 rfl (by decide) (by rw [hM]; exact hf_X6_15) rfl (by decide +kernel) rfl rfl kk
theorem hf_X6_118 : Cond.fieldLinkNest RX6 118 "EachLendsHisFace$Town" "fame" "[I" "EachLendsHisFace" ∈ lw_tbl := List.mem_of_getElem? (i := 131) (by decide +kernel)
theorem gf_X6_118 {t : Nat} (ht : t < 3) (hM : M.1.cls = RX6) (d : decode M.2.1 pc = .ok (.getfield 118, 3)) (kk : zZ x true M post (pc + 3) lv (.ref (zad x (tp t + 5)) :: st) S) : zZ x true M post pc lv (.ref (zad x (tp t)) :: st) S := zgetrN (j := 5) d (tpk0 ht) (tpl ht) rfl inlX7 rfl (by decide) (by rw [hM]; exact hf_X6_118) kk
theorem hf_X6_125 : Cond.fieldLinkNest RX6 125 "EachLendsHisFace$Town" "month" "I" "EachLendsHisFace" ∈ lw_tbl := List.mem_of_getElem? (i := 139) (by decide +kernel)
theorem gf_X6_125 {t : Nat} (ht : t < 3) (hM : M.1.cls = RX6) (d : decode M.2.1 pc = .ok (.getfield 125, 3)) (kk : zZ x true M post (pc + 3) lv (.int (S.2 (tp t) 9) :: st) S) : zZ x true M post pc lv (.ref (zad x (tp t)) :: st) S := zgetiN (j := 9) d (tpk0 ht) (tpl ht) rfl inlX7 rfl (by decide) (by rw [hM]; exact hf_X6_125) kk
theorem hf_X7_37 : Cond.fieldLink RX7 37 "EachLendsHisFace$Town" "people" "I" ∈ wsL_law := List.mem_of_getElem? (i := 73) (by decide +kernel)
theorem gf_X7_37 {t : Nat} (ht : t < 3) (hM : M.1.cls = RX7) (d : decode M.2.1 pc = .ok (.getfield 37, 3)) (kk : zZ x true M post (pc + 3) lv (.int (S.2 (tp t) 8) :: st) S) : zZ x true M post pc lv (.ref (zad x (tp t)) :: st) S := zgeti (j := 8) d (tpk0 ht) (tpl ht) rfl inlX7 rfl (by decide) (by rw [hM]; exact hf_X7_37) kk
theorem pf_X7_37 {t : Nat} (ht : t < 3) {v : Int32} (hM : M.1.cls = RX7) (d : decode M.2.1 pc = .ok (.putfield 37, 3)) (kk : zZ x true M post (pc + 3) lv st (S.1, u2 S.2 (tp t) 8 v)) : zZ x true M post pc lv (.int v :: .ref (zad x (tp t)) :: st) S := zputi (j := 8) (ty := .int) d (tpk0 ht) (tpl ht) rfl inlX7 tyX7 tyX7_ok nmX7 rfl (by decide) (by rw [hM]; exact hf_X7_37) rfl (by decide +kernel) rfl rfl kk
theorem hf_X7_41 : Cond.fieldLink RX7 41 "EachLendsHisFace$Town" "month" "I" ∈ wsL_law := List.mem_of_getElem? (i := 74) (by decide +kernel)
theorem gf_X7_41 {t : Nat} (ht : t < 3) (hM : M.1.cls = RX7) (d : decode M.2.1 pc = .ok (.getfield 41, 3)) (kk : zZ x true M post (pc + 3) lv (.int (S.2 (tp t) 9) :: st) S) : zZ x true M post pc lv (.ref (zad x (tp t)) :: st) S := zgeti (j := 9) d (tpk0 ht) (tpl ht) rfl inlX7 rfl (by decide) (by rw [hM]; exact hf_X7_41) kk
theorem pf_X7_41 {t : Nat} (ht : t < 3) {v : Int32} (hM : M.1.cls = RX7) (d : decode M.2.1 pc = .ok (.putfield 41, 3)) (kk : zZ x true M post (pc + 3) lv st (S.1, u2 S.2 (tp t) 9 v)) : zZ x true M post pc lv (.int v :: .ref (zad x (tp t)) :: st) S := zputi (j := 9) (ty := .int) d (tpk0 ht) (tpl ht) rfl inlX7 tyX7 tyX7_ok nmX7 rfl (by decide) (by rw [hM]; exact hf_X7_41) rfl (by decide +kernel) rfl rfl kk
theorem hf_X7_15 : Cond.fieldLink RX7 15 "EachLendsHisFace$Town" "kind" "[I" ∈ wsL_law := List.mem_of_getElem? (i := 66) (by decide +kernel)
theorem gf_X7_15 {t : Nat} (ht : t < 3) (hM : M.1.cls = RX7) (d : decode M.2.1 pc = .ok (.getfield 15, 3)) (kk : zZ x true M post (pc + 3) lv (.ref (zad x (tp t + 1)) :: st) S) : zZ x true M post pc lv (.ref (zad x (tp t)) :: st) S := zgetr (j := 1) d (tpk0 ht) (tpl ht) rfl inlX7 rfl (by decide) (by rw [hM]; exact hf_X7_15) kk
theorem hf_X7_19 : Cond.fieldLink RX7 19 "EachLendsHisFace$Town" "figure" "[I" ∈ wsL_law := List.mem_of_getElem? (i := 67) (by decide +kernel)
theorem gf_X7_19 {t : Nat} (ht : t < 3) (hM : M.1.cls = RX7) (d : decode M.2.1 pc = .ok (.getfield 19, 3)) (kk : zZ x true M post (pc + 3) lv (.ref (zad x (tp t + 2)) :: st) S) : zZ x true M post pc lv (.ref (zad x (tp t)) :: st) S := zgetr (j := 2) d (tpk0 ht) (tpl ht) rfl inlX7 rfl (by decide) (by rw [hM]; exact hf_X7_19) kk
theorem hf_X7_22 : Cond.fieldLink RX7 22 "EachLendsHisFace$Town" "known" "[I" ∈ wsL_law := List.mem_of_getElem? (i := 68) (by decide +kernel)
theorem gf_X7_22 {t : Nat} (ht : t < 3) (hM : M.1.cls = RX7) (d : decode M.2.1 pc = .ok (.getfield 22, 3)) (kk : zZ x true M post (pc + 3) lv (.ref (zad x (tp t + 3)) :: st) S) : zZ x true M post pc lv (.ref (zad x (tp t)) :: st) S := zgetr (j := 3) d (tpk0 ht) (tpl ht) rfl inlX7 rfl (by decide) (by rw [hM]; exact hf_X7_22) kk
theorem hf_X7_25 : Cond.fieldLink RX7 25 "EachLendsHisFace$Town" "worn" "[I" ∈ wsL_law := List.mem_of_getElem? (i := 69) (by decide +kernel)
theorem gf_X7_25 {t : Nat} (ht : t < 3) (hM : M.1.cls = RX7) (d : decode M.2.1 pc = .ok (.getfield 25, 3)) (kk : zZ x true M post (pc + 3) lv (.ref (zad x (tp t + 4)) :: st) S) : zZ x true M post pc lv (.ref (zad x (tp t)) :: st) S := zgetr (j := 4) d (tpk0 ht) (tpl ht) rfl inlX7 rfl (by decide) (by rw [hM]; exact hf_X7_25) kk
theorem hf_X7_28 : Cond.fieldLink RX7 28 "EachLendsHisFace$Town" "fame" "[I" ∈ wsL_law := List.mem_of_getElem? (i := 70) (by decide +kernel)
theorem gf_X7_28 {t : Nat} (ht : t < 3) (hM : M.1.cls = RX7) (d : decode M.2.1 pc = .ok (.getfield 28, 3)) (kk : zZ x true M post (pc + 3) lv (.ref (zad x (tp t + 5)) :: st) S) : zZ x true M post pc lv (.ref (zad x (tp t)) :: st) S := zgetr (j := 5) d (tpk0 ht) (tpl ht) rfl inlX7 rfl (by decide) (by rw [hM]; exact hf_X7_28) kk
theorem hf_X7_31 : Cond.fieldLink RX7 31 "EachLendsHisFace$Town" "scars" "[I" ∈ wsL_law := List.mem_of_getElem? (i := 71) (by decide +kernel)
theorem gf_X7_31 {t : Nat} (ht : t < 3) (hM : M.1.cls = RX7) (d : decode M.2.1 pc = .ok (.getfield 31, 3)) (kk : zZ x true M post (pc + 3) lv (.ref (zad x (tp t + 6)) :: st) S) : zZ x true M post pc lv (.ref (zad x (tp t)) :: st) S := zgetr (j := 6) d (tpk0 ht) (tpl ht) rfl inlX7 rfl (by decide) (by rw [hM]; exact hf_X7_31) kk
theorem hf_X7_34 : Cond.fieldLink RX7 34 "EachLendsHisFace$Town" "lent" "[I" ∈ wsL_law := List.mem_of_getElem? (i := 72) (by decide +kernel)
theorem gf_X7_34 {t : Nat} (ht : t < 3) (hM : M.1.cls = RX7) (d : decode M.2.1 pc = .ok (.getfield 34, 3)) (kk : zZ x true M post (pc + 3) lv (.ref (zad x (tp t + 7)) :: st) S) : zZ x true M post pc lv (.ref (zad x (tp t)) :: st) S := zgetr (j := 7) d (tpk0 ht) (tpl ht) rfl inlX7 rfl (by decide) (by rw [hM]; exact hf_X7_34) kk
theorem hf_X7_9 : Cond.fieldLink RX7 9 "EachLendsHisFace$Town" "kinds" "[LEachLendsHisFace$Person;" ∈ wsL_law := List.mem_of_getElem? (i := 65) (by decide +kernel)
theorem gf_X7_9 {t : Nat} (ht : t < 3) (hM : M.1.cls = RX7) (d : decode M.2.1 pc = .ok (.getfield 9, 3)) (kk : zZ x true M post (pc + 3) lv (.ref (zad x 1) :: st) S) : zZ x true M post pc lv (.ref (zad x (tp t)) :: st) S := zgetr (j := 0) d (tpk0 ht) (tpl ht) rfl inlX7 rfl (by decide) (by rw [hM]; exact hf_X7_9) kk
end ZFLD
end
