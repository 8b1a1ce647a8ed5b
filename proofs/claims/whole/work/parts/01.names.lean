-- ===== PART A: goes FIRST, ahead of the names: the tables' words, and 'selects' of the private methods out of them =====
/-- a private method of a class that the tables say can be made, by its rows of tables_1 -/
def lw_okq (q : MethodName × Nat) : Prop := (q.1.cls ≠ "java/lang/invoke/MethodHandle" ∧ q.1.cls ≠ "java/lang/invoke/VarHandle") ∧ Cond.instantiable q.1.cls q.2 ∈ tables_1 ∧ Cond.privateMethod q.1 ∈ tables_1 ∧ Cond.instanceMethod q.1 ∈ tables_1
theorem lw_p0 : lw_okq (⟨"GiftMatch", "isPair", "(II)Z"⟩, 12) := ⟨⟨by decide +kernel, by decide +kernel⟩, List.mem_of_getElem? (i := 16) (by decide +kernel), List.mem_of_getElem? (i := 363) (by decide +kernel), List.mem_of_getElem? (i := 364) (by decide +kernel)⟩
theorem lw_p1 : lw_okq (⟨"GiftMatch", "isGiver", "(I)Z"⟩, 12) := ⟨⟨by decide +kernel, by decide +kernel⟩, List.mem_of_getElem? (i := 16) (by decide +kernel), List.mem_of_getElem? (i := 367) (by decide +kernel), List.mem_of_getElem? (i := 368) (by decide +kernel)⟩
theorem lw_p2 : lw_okq (⟨"GiftMatch", "isWork", "(I)Z"⟩, 12) := ⟨⟨by decide +kernel, by decide +kernel⟩, List.mem_of_getElem? (i := 16) (by decide +kernel), List.mem_of_getElem? (i := 371) (by decide +kernel), List.mem_of_getElem? (i := 372) (by decide +kernel)⟩
theorem lw_p3 : lw_okq (⟨"GiftMatch", "setKeep", "(I)I"⟩, 12) := ⟨⟨by decide +kernel, by decide +kernel⟩, List.mem_of_getElem? (i := 16) (by decide +kernel), List.mem_of_getElem? (i := 379) (by decide +kernel), List.mem_of_getElem? (i := 380) (by decide +kernel)⟩
theorem lw_p4 : lw_okq (⟨"GiftMatch", "setTheRule", "(I)I"⟩, 12) := ⟨⟨by decide +kernel, by decide +kernel⟩, List.mem_of_getElem? (i := 16) (by decide +kernel), List.mem_of_getElem? (i := 383) (by decide +kernel), List.mem_of_getElem? (i := 384) (by decide +kernel)⟩
theorem lw_p5 : lw_okq (⟨"GiftMatch", "setPurse", "(I)I"⟩, 12) := ⟨⟨by decide +kernel, by decide +kernel⟩, List.mem_of_getElem? (i := 16) (by decide +kernel), List.mem_of_getElem? (i := 390) (by decide +kernel), List.mem_of_getElem? (i := 391) (by decide +kernel)⟩
theorem lw_p6 : lw_okq (⟨"GiftMatch", "setParted", "(I)I"⟩, 12) := ⟨⟨by decide +kernel, by decide +kernel⟩, List.mem_of_getElem? (i := 16) (by decide +kernel), List.mem_of_getElem? (i := 394) (by decide +kernel), List.mem_of_getElem? (i := 395) (by decide +kernel)⟩
theorem lw_p7 : lw_okq (⟨"GiftMatch$Reader", "readCharacter", "(LGiftMatch$Rule;I)V"⟩, 5) := ⟨⟨by decide +kernel, by decide +kernel⟩, List.mem_of_getElem? (i := 137) (by decide +kernel), List.mem_of_getElem? (i := 406) (by decide +kernel), List.mem_of_getElem? (i := 407) (by decide +kernel)⟩
theorem lw_p8 : lw_okq (⟨"GiftMatch$Reader", "readDigit", "(LGiftMatch$Rule;II)V"⟩, 5) := ⟨⟨by decide +kernel, by decide +kernel⟩, List.mem_of_getElem? (i := 137) (by decide +kernel), List.mem_of_getElem? (i := 410) (by decide +kernel), List.mem_of_getElem? (i := 411) (by decide +kernel)⟩
theorem lw_p9 : lw_okq (⟨"GiftMatch$Reader", "readUnit", "(LGiftMatch$Rule;I)Z"⟩, 5) := ⟨⟨by decide +kernel, by decide +kernel⟩, List.mem_of_getElem? (i := 137) (by decide +kernel), List.mem_of_getElem? (i := 418) (by decide +kernel), List.mem_of_getElem? (i := 419) (by decide +kernel)⟩
theorem lw_p10 : lw_okq (⟨"GiftMatch$Reader", "hold", "(I)V"⟩, 5) := ⟨⟨by decide +kernel, by decide +kernel⟩, List.mem_of_getElem? (i := 137) (by decide +kernel), List.mem_of_getElem? (i := 422) (by decide +kernel), List.mem_of_getElem? (i := 423) (by decide +kernel)⟩
theorem lw_p11 : lw_okq (⟨"GiftMatch$Reader", "readBehindUnit", "(LGiftMatch$Rule;I)Z"⟩, 5) := ⟨⟨by decide +kernel, by decide +kernel⟩, List.mem_of_getElem? (i := 137) (by decide +kernel), List.mem_of_getElem? (i := 426) (by decide +kernel), List.mem_of_getElem? (i := 427) (by decide +kernel)⟩
theorem lw_p12 : lw_okq (⟨"GiftMatch$Reader", "closeBracket", "(LGiftMatch$Rule;)Z"⟩, 5) := ⟨⟨by decide +kernel, by decide +kernel⟩, List.mem_of_getElem? (i := 137) (by decide +kernel), List.mem_of_getElem? (i := 430) (by decide +kernel), List.mem_of_getElem? (i := 431) (by decide +kernel)⟩
theorem lw_p13 : lw_okq (⟨"GiftMatch$Reader", "release", "(LGiftMatch$Rule;I)V"⟩, 5) := ⟨⟨by decide +kernel, by decide +kernel⟩, List.mem_of_getElem? (i := 137) (by decide +kernel), List.mem_of_getElem? (i := 434) (by decide +kernel), List.mem_of_getElem? (i := 435) (by decide +kernel)⟩
theorem lw_p14 : lw_okq (⟨"GiftMatch$Reader", "lastRank", "()I"⟩, 5) := ⟨⟨by decide +kernel, by decide +kernel⟩, List.mem_of_getElem? (i := 137) (by decide +kernel), List.mem_of_getElem? (i := 441) (by decide +kernel), List.mem_of_getElem? (i := 442) (by decide +kernel)⟩
theorem lw_p15 : lw_okq (⟨"GiftMatch$Sight", "push", "(J)V"⟩, 7) := ⟨⟨by decide +kernel, by decide +kernel⟩, List.mem_of_getElem? (i := 160) (by decide +kernel), List.mem_of_getElem? (i := 497) (by decide +kernel), List.mem_of_getElem? (i := 498) (by decide +kernel)⟩
def lw_privs_1 : List (MethodName × Nat) := [(⟨"GiftMatch", "isPair", "(II)Z"⟩, 12), (⟨"GiftMatch", "isGiver", "(I)Z"⟩, 12), (⟨"GiftMatch", "isWork", "(I)Z"⟩, 12), (⟨"GiftMatch", "setKeep", "(I)I"⟩, 12), (⟨"GiftMatch", "setTheRule", "(I)I"⟩, 12), (⟨"GiftMatch", "setPurse", "(I)I"⟩, 12), (⟨"GiftMatch", "setParted", "(I)I"⟩, 12), (⟨"GiftMatch$Reader", "readCharacter", "(LGiftMatch$Rule;I)V"⟩, 5), (⟨"GiftMatch$Reader", "readDigit", "(LGiftMatch$Rule;II)V"⟩, 5), (⟨"GiftMatch$Reader", "readUnit", "(LGiftMatch$Rule;I)Z"⟩, 5), (⟨"GiftMatch$Reader", "hold", "(I)V"⟩, 5), (⟨"GiftMatch$Reader", "readBehindUnit", "(LGiftMatch$Rule;I)Z"⟩, 5), (⟨"GiftMatch$Reader", "closeBracket", "(LGiftMatch$Rule;)Z"⟩, 5), (⟨"GiftMatch$Reader", "release", "(LGiftMatch$Rule;I)V"⟩, 5), (⟨"GiftMatch$Reader", "lastRank", "()I"⟩, 5), (⟨"GiftMatch$Sight", "push", "(J)V"⟩, 7)]
theorem lw_r1 : ∀ q ∈ lw_privs_1, lw_okq q := List.forall_mem_cons.mpr ⟨lw_p0, List.forall_mem_cons.mpr ⟨lw_p1, List.forall_mem_cons.mpr ⟨lw_p2, List.forall_mem_cons.mpr ⟨lw_p3, List.forall_mem_cons.mpr ⟨lw_p4, List.forall_mem_cons.mpr ⟨lw_p5, List.forall_mem_cons.mpr ⟨lw_p6, List.forall_mem_cons.mpr ⟨lw_p7, List.forall_mem_cons.mpr ⟨lw_p8, List.forall_mem_cons.mpr ⟨lw_p9, List.forall_mem_cons.mpr ⟨lw_p10, List.forall_mem_cons.mpr ⟨lw_p11, List.forall_mem_cons.mpr ⟨lw_p12, List.forall_mem_cons.mpr ⟨lw_p13, List.forall_mem_cons.mpr ⟨lw_p14, List.forall_mem_cons.mpr ⟨lw_p15, fun _ h => absurd h List.not_mem_nil⟩⟩⟩⟩⟩⟩⟩⟩⟩⟩⟩⟩⟩⟩⟩⟩
theorem lw_p16 : lw_okq (⟨"GiftMatch$Sight", "doStep", "(I)V"⟩, 7) := ⟨⟨by decide +kernel, by decide +kernel⟩, List.mem_of_getElem? (i := 160) (by decide +kernel), List.mem_of_getElem? (i := 501) (by decide +kernel), List.mem_of_getElem? (i := 502) (by decide +kernel)⟩
theorem lw_p17 : lw_okq (⟨"GiftMatch$Sight", "pop", "()J"⟩, 7) := ⟨⟨by decide +kernel, by decide +kernel⟩, List.mem_of_getElem? (i := 160) (by decide +kernel), List.mem_of_getElem? (i := 506) (by decide +kernel), List.mem_of_getElem? (i := 507) (by decide +kernel)⟩
theorem lw_p18 : lw_okq (⟨"GiftMatch$Ledger", "partByShare", "(II)V"⟩, 5) := ⟨⟨by decide +kernel, by decide +kernel⟩, List.mem_of_getElem? (i := 189) (by decide +kernel), List.mem_of_getElem? (i := 524) (by decide +kernel), List.mem_of_getElem? (i := 525) (by decide +kernel)⟩
theorem lw_p19 : lw_okq (⟨"GiftMatch$Ledger", "partByNumber", "(I)V"⟩, 5) := ⟨⟨by decide +kernel, by decide +kernel⟩, List.mem_of_getElem? (i := 189) (by decide +kernel), List.mem_of_getElem? (i := 528) (by decide +kernel), List.mem_of_getElem? (i := 529) (by decide +kernel)⟩
theorem lw_p20 : lw_okq (⟨"GiftMatch$Ledger", "partByBound", "(I)V"⟩, 5) := ⟨⟨by decide +kernel, by decide +kernel⟩, List.mem_of_getElem? (i := 189) (by decide +kernel), List.mem_of_getElem? (i := 533) (by decide +kernel), List.mem_of_getElem? (i := 534) (by decide +kernel)⟩
theorem lw_p21 : lw_okq (⟨"GiftMatch$Chooser", "foresee", "(LGiftMatch$Scene;I)V"⟩, 6) := ⟨⟨by decide +kernel, by decide +kernel⟩, List.mem_of_getElem? (i := 220) (by decide +kernel), List.mem_of_getElem? (i := 576) (by decide +kernel), List.mem_of_getElem? (i := 577) (by decide +kernel)⟩
theorem lw_p22 : lw_okq (⟨"GiftMatch$Chooser", "weigh", "(LGiftMatch$Scene;IIII)V"⟩, 6) := ⟨⟨by decide +kernel, by decide +kernel⟩, List.mem_of_getElem? (i := 220) (by decide +kernel), List.mem_of_getElem? (i := 583) (by decide +kernel), List.mem_of_getElem? (i := 584) (by decide +kernel)⟩
theorem lw_p23 : lw_okq (⟨"GiftMatch$Chooser", "enter", "(II)V"⟩, 6) := ⟨⟨by decide +kernel, by decide +kernel⟩, List.mem_of_getElem? (i := 220) (by decide +kernel), List.mem_of_getElem? (i := 587) (by decide +kernel), List.mem_of_getElem? (i := 588) (by decide +kernel)⟩
theorem lw_p24 : lw_okq (⟨"GiftMatch$Rounds", "wasBefore", "(I)Z"⟩, 2) := ⟨⟨by decide +kernel, by decide +kernel⟩, List.mem_of_getElem? (i := 251) (by decide +kernel), List.mem_of_getElem? (i := 612) (by decide +kernel), List.mem_of_getElem? (i := 613) (by decide +kernel)⟩
theorem lw_p25 : lw_okq (⟨"GiftMatch$Common", "fillWorths", "(LGiftMatch$Scene;I)V"⟩, 4) := ⟨⟨by decide +kernel, by decide +kernel⟩, List.mem_of_getElem? (i := 264) (by decide +kernel), List.mem_of_getElem? (i := 629) (by decide +kernel), List.mem_of_getElem? (i := 630) (by decide +kernel)⟩
theorem lw_p26 : lw_okq (⟨"GiftMatch$Common", "firstBest", "(II)I"⟩, 4) := ⟨⟨by decide +kernel, by decide +kernel⟩, List.mem_of_getElem? (i := 264) (by decide +kernel), List.mem_of_getElem? (i := 635) (by decide +kernel), List.mem_of_getElem? (i := 636) (by decide +kernel)⟩
theorem lw_p27 : lw_okq (⟨"GiftMatch$Common", "haveBy", "(III)I"⟩, 4) := ⟨⟨by decide +kernel, by decide +kernel⟩, List.mem_of_getElem? (i := 264) (by decide +kernel), List.mem_of_getElem? (i := 639) (by decide +kernel), List.mem_of_getElem? (i := 640) (by decide +kernel)⟩
theorem lw_p28 : lw_okq (⟨"GiftMatch$Partings", "weigh", "(LGiftMatch$Scene;IIIII)V"⟩, 3) := ⟨⟨by decide +kernel, by decide +kernel⟩, List.mem_of_getElem? (i := 285) (by decide +kernel), List.mem_of_getElem? (i := 658) (by decide +kernel), List.mem_of_getElem? (i := 659) (by decide +kernel)⟩
theorem lw_p29 : lw_okq (⟨"GiftMatch$Laws", "addedTo", "(LGiftMatch$Rule;III)I"⟩, 1) := ⟨⟨by decide +kernel, by decide +kernel⟩, List.mem_of_getElem? (i := 301) (by decide +kernel), List.mem_of_getElem? (i := 700) (by decide +kernel), List.mem_of_getElem? (i := 701) (by decide +kernel)⟩
theorem lw_p30 : lw_okq (⟨"GiftMatch$Laws", "noneMoreByHands", "(LGiftMatch$Rule;III)Z"⟩, 1) := ⟨⟨by decide +kernel, by decide +kernel⟩, List.mem_of_getElem? (i := 301) (by decide +kernel), List.mem_of_getElem? (i := 707) (by decide +kernel), List.mem_of_getElem? (i := 708) (by decide +kernel)⟩
theorem lw_p31 : lw_okq (⟨"GiftMatch", "digestGivers", "(J)J"⟩, 12) := ⟨⟨by decide +kernel, by decide +kernel⟩, List.mem_of_getElem? (i := 16) (by decide +kernel), List.mem_of_getElem? (i := 741) (by decide +kernel), List.mem_of_getElem? (i := 742) (by decide +kernel)⟩
def lw_privs_2 : List (MethodName × Nat) := [(⟨"GiftMatch$Sight", "doStep", "(I)V"⟩, 7), (⟨"GiftMatch$Sight", "pop", "()J"⟩, 7), (⟨"GiftMatch$Ledger", "partByShare", "(II)V"⟩, 5), (⟨"GiftMatch$Ledger", "partByNumber", "(I)V"⟩, 5), (⟨"GiftMatch$Ledger", "partByBound", "(I)V"⟩, 5), (⟨"GiftMatch$Chooser", "foresee", "(LGiftMatch$Scene;I)V"⟩, 6), (⟨"GiftMatch$Chooser", "weigh", "(LGiftMatch$Scene;IIII)V"⟩, 6), (⟨"GiftMatch$Chooser", "enter", "(II)V"⟩, 6), (⟨"GiftMatch$Rounds", "wasBefore", "(I)Z"⟩, 2), (⟨"GiftMatch$Common", "fillWorths", "(LGiftMatch$Scene;I)V"⟩, 4), (⟨"GiftMatch$Common", "firstBest", "(II)I"⟩, 4), (⟨"GiftMatch$Common", "haveBy", "(III)I"⟩, 4), (⟨"GiftMatch$Partings", "weigh", "(LGiftMatch$Scene;IIIII)V"⟩, 3), (⟨"GiftMatch$Laws", "addedTo", "(LGiftMatch$Rule;III)I"⟩, 1), (⟨"GiftMatch$Laws", "noneMoreByHands", "(LGiftMatch$Rule;III)Z"⟩, 1), (⟨"GiftMatch", "digestGivers", "(J)J"⟩, 12)]
theorem lw_r2 : ∀ q ∈ lw_privs_2, lw_okq q := List.forall_mem_cons.mpr ⟨lw_p16, List.forall_mem_cons.mpr ⟨lw_p17, List.forall_mem_cons.mpr ⟨lw_p18, List.forall_mem_cons.mpr ⟨lw_p19, List.forall_mem_cons.mpr ⟨lw_p20, List.forall_mem_cons.mpr ⟨lw_p21, List.forall_mem_cons.mpr ⟨lw_p22, List.forall_mem_cons.mpr ⟨lw_p23, List.forall_mem_cons.mpr ⟨lw_p24, List.forall_mem_cons.mpr ⟨lw_p25, List.forall_mem_cons.mpr ⟨lw_p26, List.forall_mem_cons.mpr ⟨lw_p27, List.forall_mem_cons.mpr ⟨lw_p28, List.forall_mem_cons.mpr ⟨lw_p29, List.forall_mem_cons.mpr ⟨lw_p30, List.forall_mem_cons.mpr ⟨lw_p31, fun _ h => absurd h List.not_mem_nil⟩⟩⟩⟩⟩⟩⟩⟩⟩⟩⟩⟩⟩⟩⟩⟩
theorem lw_p32 : lw_okq (⟨"GiftMatch", "digestWorks", "(J)J"⟩, 12) := ⟨⟨by decide +kernel, by decide +kernel⟩, List.mem_of_getElem? (i := 16) (by decide +kernel), List.mem_of_getElem? (i := 745) (by decide +kernel), List.mem_of_getElem? (i := 746) (by decide +kernel)⟩
theorem lw_p33 : lw_okq (⟨"GiftMatch", "digestRules", "(J)J"⟩, 12) := ⟨⟨by decide +kernel, by decide +kernel⟩, List.mem_of_getElem? (i := 16) (by decide +kernel), List.mem_of_getElem? (i := 749) (by decide +kernel), List.mem_of_getElem? (i := 750) (by decide +kernel)⟩
theorem lw_p34 : lw_okq (⟨"GiftMatchModel", "givers", "()I"⟩, 29) := ⟨⟨by decide +kernel, by decide +kernel⟩, List.mem_of_getElem? (i := 753) (by decide +kernel), List.mem_of_getElem? (i := 855) (by decide +kernel), List.mem_of_getElem? (i := 856) (by decide +kernel)⟩
theorem lw_p35 : lw_okq (⟨"GiftMatchModel", "works", "()I"⟩, 29) := ⟨⟨by decide +kernel, by decide +kernel⟩, List.mem_of_getElem? (i := 753) (by decide +kernel), List.mem_of_getElem? (i := 864) (by decide +kernel), List.mem_of_getElem? (i := 865) (by decide +kernel)⟩
theorem lw_p36 : lw_okq (⟨"GiftMatchModel", "isGiver", "(I)Z"⟩, 29) := ⟨⟨by decide +kernel, by decide +kernel⟩, List.mem_of_getElem? (i := 753) (by decide +kernel), List.mem_of_getElem? (i := 872) (by decide +kernel), List.mem_of_getElem? (i := 873) (by decide +kernel)⟩
theorem lw_p37 : lw_okq (⟨"GiftMatchModel", "isWork", "(I)Z"⟩, 29) := ⟨⟨by decide +kernel, by decide +kernel⟩, List.mem_of_getElem? (i := 753) (by decide +kernel), List.mem_of_getElem? (i := 876) (by decide +kernel), List.mem_of_getElem? (i := 877) (by decide +kernel)⟩
theorem lw_p38 : lw_okq (⟨"GiftMatchModel", "reads", "()Z"⟩, 29) := ⟨⟨by decide +kernel, by decide +kernel⟩, List.mem_of_getElem? (i := 753) (by decide +kernel), List.mem_of_getElem? (i := 905) (by decide +kernel), List.mem_of_getElem? (i := 906) (by decide +kernel)⟩
theorem lw_p39 : lw_okq (⟨"GiftMatchModel", "ahead", "()I"⟩, 29) := ⟨⟨by decide +kernel, by decide +kernel⟩, List.mem_of_getElem? (i := 753) (by decide +kernel), List.mem_of_getElem? (i := 909) (by decide +kernel), List.mem_of_getElem? (i := 910) (by decide +kernel)⟩
theorem lw_p40 : lw_okq (⟨"GiftMatchModel", "textLong", "()I"⟩, 29) := ⟨⟨by decide +kernel, by decide +kernel⟩, List.mem_of_getElem? (i := 753) (by decide +kernel), List.mem_of_getElem? (i := 913) (by decide +kernel), List.mem_of_getElem? (i := 914) (by decide +kernel)⟩
theorem lw_p41 : lw_okq (⟨"GiftMatchModel", "charAt", "(I)I"⟩, 29) := ⟨⟨by decide +kernel, by decide +kernel⟩, List.mem_of_getElem? (i := 753) (by decide +kernel), List.mem_of_getElem? (i := 917) (by decide +kernel), List.mem_of_getElem? (i := 918) (by decide +kernel)⟩
theorem lw_p42 : lw_okq (⟨"GiftMatchModel", "digits", "()J"⟩, 29) := ⟨⟨by decide +kernel, by decide +kernel⟩, List.mem_of_getElem? (i := 753) (by decide +kernel), List.mem_of_getElem? (i := 923) (by decide +kernel), List.mem_of_getElem? (i := 924) (by decide +kernel)⟩
theorem lw_p43 : lw_okq (⟨"GiftMatchModel", "stands", "(J)V"⟩, 29) := ⟨⟨by decide +kernel, by decide +kernel⟩, List.mem_of_getElem? (i := 753) (by decide +kernel), List.mem_of_getElem? (i := 928) (by decide +kernel), List.mem_of_getElem? (i := 929) (by decide +kernel)⟩
theorem lw_p44 : lw_okq (⟨"GiftMatchModel", "workDown", "(I)V"⟩, 29) := ⟨⟨by decide +kernel, by decide +kernel⟩, List.mem_of_getElem? (i := 753) (by decide +kernel), List.mem_of_getElem? (i := 935) (by decide +kernel), List.mem_of_getElem? (i := 936) (by decide +kernel)⟩
theorem lw_p45 : lw_okq (⟨"GiftMatchModel", "workOut", "()V"⟩, 29) := ⟨⟨by decide +kernel, by decide +kernel⟩, List.mem_of_getElem? (i := 753) (by decide +kernel), List.mem_of_getElem? (i := 942) (by decide +kernel), List.mem_of_getElem? (i := 943) (by decide +kernel)⟩
theorem lw_p46 : lw_okq (⟨"GiftMatchModel", "gift", "(II)I"⟩, 29) := ⟨⟨by decide +kernel, by decide +kernel⟩, List.mem_of_getElem? (i := 753) (by decide +kernel), List.mem_of_getElem? (i := 950) (by decide +kernel), List.mem_of_getElem? (i := 951) (by decide +kernel)⟩
theorem lw_p47 : lw_okq (⟨"GiftMatchModel", "addUp", "()V"⟩, 29) := ⟨⟨by decide +kernel, by decide +kernel⟩, List.mem_of_getElem? (i := 753) (by decide +kernel), List.mem_of_getElem? (i := 958) (by decide +kernel), List.mem_of_getElem? (i := 959) (by decide +kernel)⟩
def lw_privs_3 : List (MethodName × Nat) := [(⟨"GiftMatch", "digestWorks", "(J)J"⟩, 12), (⟨"GiftMatch", "digestRules", "(J)J"⟩, 12), (⟨"GiftMatchModel", "givers", "()I"⟩, 29), (⟨"GiftMatchModel", "works", "()I"⟩, 29), (⟨"GiftMatchModel", "isGiver", "(I)Z"⟩, 29), (⟨"GiftMatchModel", "isWork", "(I)Z"⟩, 29), (⟨"GiftMatchModel", "reads", "()Z"⟩, 29), (⟨"GiftMatchModel", "ahead", "()I"⟩, 29), (⟨"GiftMatchModel", "textLong", "()I"⟩, 29), (⟨"GiftMatchModel", "charAt", "(I)I"⟩, 29), (⟨"GiftMatchModel", "digits", "()J"⟩, 29), (⟨"GiftMatchModel", "stands", "(J)V"⟩, 29), (⟨"GiftMatchModel", "workDown", "(I)V"⟩, 29), (⟨"GiftMatchModel", "workOut", "()V"⟩, 29), (⟨"GiftMatchModel", "gift", "(II)I"⟩, 29), (⟨"GiftMatchModel", "addUp", "()V"⟩, 29)]
theorem lw_r3 : ∀ q ∈ lw_privs_3, lw_okq q := List.forall_mem_cons.mpr ⟨lw_p32, List.forall_mem_cons.mpr ⟨lw_p33, List.forall_mem_cons.mpr ⟨lw_p34, List.forall_mem_cons.mpr ⟨lw_p35, List.forall_mem_cons.mpr ⟨lw_p36, List.forall_mem_cons.mpr ⟨lw_p37, List.forall_mem_cons.mpr ⟨lw_p38, List.forall_mem_cons.mpr ⟨lw_p39, List.forall_mem_cons.mpr ⟨lw_p40, List.forall_mem_cons.mpr ⟨lw_p41, List.forall_mem_cons.mpr ⟨lw_p42, List.forall_mem_cons.mpr ⟨lw_p43, List.forall_mem_cons.mpr ⟨lw_p44, List.forall_mem_cons.mpr ⟨lw_p45, List.forall_mem_cons.mpr ⟨lw_p46, List.forall_mem_cons.mpr ⟨lw_p47, fun _ h => absurd h List.not_mem_nil⟩⟩⟩⟩⟩⟩⟩⟩⟩⟩⟩⟩⟩⟩⟩⟩
theorem lw_p48 : lw_okq (⟨"GiftMatchModel", "putHand", "(I)V"⟩, 29) := ⟨⟨by decide +kernel, by decide +kernel⟩, List.mem_of_getElem? (i := 753) (by decide +kernel), List.mem_of_getElem? (i := 962) (by decide +kernel), List.mem_of_getElem? (i := 963) (by decide +kernel)⟩
theorem lw_p49 : lw_okq (⟨"GiftMatchModel", "addedBy", "(I)I"⟩, 29) := ⟨⟨by decide +kernel, by decide +kernel⟩, List.mem_of_getElem? (i := 753) (by decide +kernel), List.mem_of_getElem? (i := 966) (by decide +kernel), List.mem_of_getElem? (i := 967) (by decide +kernel)⟩
theorem lw_p50 : lw_okq (⟨"GiftMatchModel", "rootOf", "(I)J"⟩, 29) := ⟨⟨by decide +kernel, by decide +kernel⟩, List.mem_of_getElem? (i := 753) (by decide +kernel), List.mem_of_getElem? (i := 970) (by decide +kernel), List.mem_of_getElem? (i := 971) (by decide +kernel)⟩
theorem lw_p51 : lw_okq (⟨"GiftMatchModel", "part", "(II)V"⟩, 29) := ⟨⟨by decide +kernel, by decide +kernel⟩, List.mem_of_getElem? (i := 753) (by decide +kernel), List.mem_of_getElem? (i := 977) (by decide +kernel), List.mem_of_getElem? (i := 978) (by decide +kernel)⟩
theorem lw_p52 : lw_okq (⟨"GiftMatchModel", "below", "(I)I"⟩, 29) := ⟨⟨by decide +kernel, by decide +kernel⟩, List.mem_of_getElem? (i := 753) (by decide +kernel), List.mem_of_getElem? (i := 981) (by decide +kernel), List.mem_of_getElem? (i := 982) (by decide +kernel)⟩
theorem lw_p53 : lw_okq (⟨"GiftMatchModel", "allNow", "()I"⟩, 29) := ⟨⟨by decide +kernel, by decide +kernel⟩, List.mem_of_getElem? (i := 753) (by decide +kernel), List.mem_of_getElem? (i := 993) (by decide +kernel), List.mem_of_getElem? (i := 994) (by decide +kernel)⟩
theorem lw_p54 : lw_okq (⟨"GiftMatchModel", "hasNow", "(I)I"⟩, 29) := ⟨⟨by decide +kernel, by decide +kernel⟩, List.mem_of_getElem? (i := 753) (by decide +kernel), List.mem_of_getElem? (i := 997) (by decide +kernel), List.mem_of_getElem? (i := 998) (by decide +kernel)⟩
theorem lw_p55 : lw_okq (⟨"GiftMatchModel", "worthOf", "(III)I"⟩, 29) := ⟨⟨by decide +kernel, by decide +kernel⟩, List.mem_of_getElem? (i := 753) (by decide +kernel), List.mem_of_getElem? (i := 1001) (by decide +kernel), List.mem_of_getElem? (i := 1002) (by decide +kernel)⟩
theorem lw_p56 : lw_okq (⟨"GiftMatchModel", "findBest", "(I)I"⟩, 29) := ⟨⟨by decide +kernel, by decide +kernel⟩, List.mem_of_getElem? (i := 753) (by decide +kernel), List.mem_of_getElem? (i := 1009) (by decide +kernel), List.mem_of_getElem? (i := 1010) (by decide +kernel)⟩
theorem lw_p57 : lw_okq (⟨"GiftMatchModel", "setRow", "(IIII)V"⟩, 29) := ⟨⟨by decide +kernel, by decide +kernel⟩, List.mem_of_getElem? (i := 753) (by decide +kernel), List.mem_of_getElem? (i := 1013) (by decide +kernel), List.mem_of_getElem? (i := 1014) (by decide +kernel)⟩
theorem lw_p58 : lw_okq (⟨"GiftMatchModel", "goByTurns", "()I"⟩, 29) := ⟨⟨by decide +kernel, by decide +kernel⟩, List.mem_of_getElem? (i := 753) (by decide +kernel), List.mem_of_getElem? (i := 1025) (by decide +kernel), List.mem_of_getElem? (i := 1026) (by decide +kernel)⟩
theorem lw_p59 : lw_okq (⟨"GiftMatchModel", "note", "(I)V"⟩, 29) := ⟨⟨by decide +kernel, by decide +kernel⟩, List.mem_of_getElem? (i := 753) (by decide +kernel), List.mem_of_getElem? (i := 1029) (by decide +kernel), List.mem_of_getElem? (i := 1030) (by decide +kernel)⟩
theorem lw_p60 : lw_okq (⟨"GiftMatchModel", "isAgain", "(I)Z"⟩, 29) := ⟨⟨by decide +kernel, by decide +kernel⟩, List.mem_of_getElem? (i := 753) (by decide +kernel), List.mem_of_getElem? (i := 1033) (by decide +kernel), List.mem_of_getElem? (i := 1034) (by decide +kernel)⟩
theorem lw_p61 : lw_okq (⟨"GiftMatchModel", "findGood", "()I"⟩, 29) := ⟨⟨by decide +kernel, by decide +kernel⟩, List.mem_of_getElem? (i := 753) (by decide +kernel), List.mem_of_getElem? (i := 1041) (by decide +kernel), List.mem_of_getElem? (i := 1042) (by decide +kernel)⟩
theorem lw_p62 : lw_okq (⟨"GiftMatchModel", "allCoin", "()I"⟩, 29) := ⟨⟨by decide +kernel, by decide +kernel⟩, List.mem_of_getElem? (i := 753) (by decide +kernel), List.mem_of_getElem? (i := 1045) (by decide +kernel), List.mem_of_getElem? (i := 1046) (by decide +kernel)⟩
theorem lw_p63 : lw_okq (⟨"GiftMatchModel", "findHands", "(II)V"⟩, 29) := ⟨⟨by decide +kernel, by decide +kernel⟩, List.mem_of_getElem? (i := 753) (by decide +kernel), List.mem_of_getElem? (i := 1057) (by decide +kernel), List.mem_of_getElem? (i := 1058) (by decide +kernel)⟩
def lw_privs_4 : List (MethodName × Nat) := [(⟨"GiftMatchModel", "putHand", "(I)V"⟩, 29), (⟨"GiftMatchModel", "addedBy", "(I)I"⟩, 29), (⟨"GiftMatchModel", "rootOf", "(I)J"⟩, 29), (⟨"GiftMatchModel", "part", "(II)V"⟩, 29), (⟨"GiftMatchModel", "below", "(I)I"⟩, 29), (⟨"GiftMatchModel", "allNow", "()I"⟩, 29), (⟨"GiftMatchModel", "hasNow", "(I)I"⟩, 29), (⟨"GiftMatchModel", "worthOf", "(III)I"⟩, 29), (⟨"GiftMatchModel", "findBest", "(I)I"⟩, 29), (⟨"GiftMatchModel", "setRow", "(IIII)V"⟩, 29), (⟨"GiftMatchModel", "goByTurns", "()I"⟩, 29), (⟨"GiftMatchModel", "note", "(I)V"⟩, 29), (⟨"GiftMatchModel", "isAgain", "(I)Z"⟩, 29), (⟨"GiftMatchModel", "findGood", "()I"⟩, 29), (⟨"GiftMatchModel", "allCoin", "()I"⟩, 29), (⟨"GiftMatchModel", "findHands", "(II)V"⟩, 29)]
theorem lw_r4 : ∀ q ∈ lw_privs_4, lw_okq q := List.forall_mem_cons.mpr ⟨lw_p48, List.forall_mem_cons.mpr ⟨lw_p49, List.forall_mem_cons.mpr ⟨lw_p50, List.forall_mem_cons.mpr ⟨lw_p51, List.forall_mem_cons.mpr ⟨lw_p52, List.forall_mem_cons.mpr ⟨lw_p53, List.forall_mem_cons.mpr ⟨lw_p54, List.forall_mem_cons.mpr ⟨lw_p55, List.forall_mem_cons.mpr ⟨lw_p56, List.forall_mem_cons.mpr ⟨lw_p57, List.forall_mem_cons.mpr ⟨lw_p58, List.forall_mem_cons.mpr ⟨lw_p59, List.forall_mem_cons.mpr ⟨lw_p60, List.forall_mem_cons.mpr ⟨lw_p61, List.forall_mem_cons.mpr ⟨lw_p62, List.forall_mem_cons.mpr ⟨lw_p63, fun _ h => absurd h List.not_mem_nil⟩⟩⟩⟩⟩⟩⟩⟩⟩⟩⟩⟩⟩⟩⟩⟩
theorem lw_p64 : lw_okq (⟨"GiftMatchModel", "coinsGiven", "()I"⟩, 29) := ⟨⟨by decide +kernel, by decide +kernel⟩, List.mem_of_getElem? (i := 753) (by decide +kernel), List.mem_of_getElem? (i := 1069) (by decide +kernel), List.mem_of_getElem? (i := 1070) (by decide +kernel)⟩
theorem lw_p65 : lw_okq (⟨"GiftMatchModel", "holds", "(IIIII)Z"⟩, 29) := ⟨⟨by decide +kernel, by decide +kernel⟩, List.mem_of_getElem? (i := 753) (by decide +kernel), List.mem_of_getElem? (i := 1077) (by decide +kernel), List.mem_of_getElem? (i := 1078) (by decide +kernel)⟩
theorem lw_p66 : lw_okq (⟨"GiftMatchModel", "addedTo", "(IIII)I"⟩, 29) := ⟨⟨by decide +kernel, by decide +kernel⟩, List.mem_of_getElem? (i := 753) (by decide +kernel), List.mem_of_getElem? (i := 1081) (by decide +kernel), List.mem_of_getElem? (i := 1082) (by decide +kernel)⟩
def lw_privs_5 : List (MethodName × Nat) := [(⟨"GiftMatchModel", "coinsGiven", "()I"⟩, 29), (⟨"GiftMatchModel", "holds", "(IIIII)Z"⟩, 29), (⟨"GiftMatchModel", "addedTo", "(IIII)I"⟩, 29)]
theorem lw_r5 : ∀ q ∈ lw_privs_5, lw_okq q := List.forall_mem_cons.mpr ⟨lw_p64, List.forall_mem_cons.mpr ⟨lw_p65, List.forall_mem_cons.mpr ⟨lw_p66, fun _ h => absurd h List.not_mem_nil⟩⟩⟩
def lw_privs : List (MethodName × Nat) := lw_privs_1 ++ (lw_privs_2 ++ (lw_privs_3 ++ (lw_privs_4 ++ (lw_privs_5))))
def lw_tbl : List Cond := k2_sels lw_privs ++ tables_1
theorem lw_privs_ok : ∀ q ∈ lw_privs, lw_okq q := by
  show ∀ q ∈ lw_privs_1 ++ (lw_privs_2 ++ (lw_privs_3 ++ (lw_privs_4 ++ (lw_privs_5)))), lw_okq q
  exact List.forall_mem_append.mpr ⟨lw_r1, List.forall_mem_append.mpr ⟨lw_r2, List.forall_mem_append.mpr ⟨lw_r3, List.forall_mem_append.mpr ⟨lw_r4, lw_r5⟩⟩⟩⟩

def RX0 : String := "GiftMatch$Chooser"
def TX0 : u_T := fun k => match k with
  | 0 => ("GiftMatch$Chooser", "ledger", "LGiftMatch$Ledger;", true)
  | 1 => ("GiftMatch$Chooser", "wouldBy", "[I", true)
  | 2 => ("GiftMatch$Chooser", "others", "[I", true)
  | 3 => ("GiftMatch$Chooser", "row", "[I", true)
  | 4 => ("GiftMatch$Chooser", "most", "I", false)
  | _ => ("GiftMatch$Chooser", "before", "I", false)
def tyX0 : Nat → FieldType := fun k => match k with
  | 0 => .object "GiftMatch$Ledger"
  | 1 => .array .int
  | 2 => .array .int
  | 3 => .array .int
  | 4 => .int
  | _ => .int
abbrev wsX00 : List Cond := u_ws RX0 TX0 6
theorem nmX0 : ∀ a, a < 6 → ∀ b, b < 6 → a ≠ b → (TX0 a).2.1 ≠ (TX0 b).2.1 := by decide +kernel
theorem tyX0_ok : ∀ k, k < 6 → parseFieldDescriptor (TX0 k).2.2.1 = some (tyX0 k) := by decide +kernel
abbrev cX0_init : ByteArray := prog_2_method_1_code
def yX0_init : MethodName := ⟨RX0, "<init>", "(LGiftMatch$Ledger;)V"⟩
abbrev cX0_choose : ByteArray := prog_2_method_2_code
def yX0_choose : MethodName := ⟨RX0, "choose", "(LGiftMatch$Scene;I)V"⟩
abbrev cX0_foresee : ByteArray := prog_2_method_3_code
def yX0_foresee : MethodName := ⟨RX0, "foresee", "(LGiftMatch$Scene;I)V"⟩
abbrev cX0_weigh : ByteArray := prog_2_method_4_code
def yX0_weigh : MethodName := ⟨RX0, "weigh", "(LGiftMatch$Scene;IIII)V"⟩
abbrev cX0_enter : ByteArray := prog_2_method_5_code
def yX0_enter : MethodName := ⟨RX0, "enter", "(II)V"⟩
def RX1 : String := "GiftMatch$Common"
def TX1 : u_T := fun k => match k with
  | 0 => ("GiftMatch$Common", "worths", "[I", true)
  | 1 => ("GiftMatch$Common", "mostFrom", "[I", true)
  | 2 => ("GiftMatch$Common", "row", "[I", true)
  | _ => ("GiftMatch$Common", "most", "I", false)
def tyX1 : Nat → FieldType := fun k => match k with
  | 0 => .array .int
  | 1 => .array .int
  | 2 => .array .int
  | _ => .int
abbrev wsX10 : List Cond := u_ws RX1 TX1 4
theorem nmX1 : ∀ a, a < 4 → ∀ b, b < 4 → a ≠ b → (TX1 a).2.1 ≠ (TX1 b).2.1 := by decide +kernel
theorem tyX1_ok : ∀ k, k < 4 → parseFieldDescriptor (TX1 k).2.2.1 = some (tyX1 k) := by decide +kernel
abbrev cX1_init : ByteArray := prog_3_method_1_code
def yX1_init : MethodName := ⟨RX1, "<init>", "()V"⟩
abbrev cX1_find : ByteArray := prog_3_method_2_code
def yX1_find : MethodName := ⟨RX1, "find", "(LGiftMatch$Scene;)V"⟩
abbrev cX1_fillWorths : ByteArray := prog_3_method_3_code
def yX1_fillWorths : MethodName := ⟨RX1, "fillWorths", "(LGiftMatch$Scene;I)V"⟩
abbrev cX1_firstBest : ByteArray := prog_3_method_4_code
def yX1_firstBest : MethodName := ⟨RX1, "firstBest", "(II)I"⟩
abbrev cX1_haveBy : ByteArray := prog_3_method_5_code
def yX1_haveBy : MethodName := ⟨RX1, "haveBy", "(III)I"⟩
def RX2 : String := "GiftMatch$Laws"
def TX2 : u_T := fun k => match k with
  | _ => ("GiftMatch$Laws", "sight", "LGiftMatch$Sight;", true)
def tyX2 : Nat → FieldType := fun k => match k with
  | _ => .object "GiftMatch$Sight"
abbrev wsX20 : List Cond := u_ws RX2 TX2 1
theorem nmX2 : ∀ a, a < 1 → ∀ b, b < 1 → a ≠ b → (TX2 a).2.1 ≠ (TX2 b).2.1 := by decide +kernel
theorem tyX2_ok : ∀ k, k < 1 → parseFieldDescriptor (TX2 k).2.2.1 = some (tyX2 k) := by decide +kernel
abbrev cX2_init : ByteArray := prog_4_method_1_code
def yX2_init : MethodName := ⟨RX2, "<init>", "(LGiftMatch$Sight;)V"⟩
abbrev cX2_hold : ByteArray := prog_4_method_2_code
def yX2_hold : MethodName := ⟨RX2, "hold", "(LGiftMatch$Rule;IIII)Z"⟩
abbrev cX2_noneMoreByHands : ByteArray := prog_4_method_3_code
def yX2_noneMoreByHands : MethodName := ⟨RX2, "noneMoreByHands", "(LGiftMatch$Rule;III)Z"⟩
abbrev cX2_addedTo : ByteArray := prog_4_method_4_code
def yX2_addedTo : MethodName := ⟨RX2, "addedTo", "(LGiftMatch$Rule;III)I"⟩
def RX3 : String := "GiftMatch$Ledger"
def TX3 : u_T := fun k => match k with
  | 0 => ("GiftMatch$Ledger", "sight", "LGiftMatch$Sight;", true)
  | 1 => ("GiftMatch$Ledger", "gifts", "[I", true)
  | 2 => ("GiftMatch$Ledger", "would", "[I", true)
  | 3 => ("GiftMatch$Ledger", "added", "[I", true)
  | _ => ("GiftMatch$Ledger", "lacks", "Z", false)
def tyX3 : Nat → FieldType := fun k => match k with
  | 0 => .object "GiftMatch$Sight"
  | 1 => .array .int
  | 2 => .array .int
  | 3 => .array .int
  | _ => .boolean
abbrev wsX30 : List Cond := u_ws RX3 TX3 5
theorem nmX3 : ∀ a, a < 5 → ∀ b, b < 5 → a ≠ b → (TX3 a).2.1 ≠ (TX3 b).2.1 := by decide +kernel
theorem tyX3_ok : ∀ k, k < 5 → parseFieldDescriptor (TX3 k).2.2.1 = some (tyX3 k) := by decide +kernel
abbrev cX3_init : ByteArray := prog_5_method_1_code
def yX3_init : MethodName := ⟨RX3, "<init>", "(LGiftMatch$Sight;)V"⟩
abbrev cX3_fill : ByteArray := prog_5_method_2_code
def yX3_fill : MethodName := ⟨RX3, "fill", "(LGiftMatch$Scene;)V"⟩
abbrev cX3_partPurse : ByteArray := prog_5_method_3_code
def yX3_partPurse : MethodName := ⟨RX3, "partPurse", "(LGiftMatch$Scene;)V"⟩
abbrev cX3_partByShare : ByteArray := prog_5_method_4_code
def yX3_partByShare : MethodName := ⟨RX3, "partByShare", "(II)V"⟩
abbrev cX3_partByNumber : ByteArray := prog_5_method_5_code
def yX3_partByNumber : MethodName := ⟨RX3, "partByNumber", "(I)V"⟩
abbrev cX3_partByBound : ByteArray := prog_5_method_6_code
def yX3_partByBound : MethodName := ⟨RX3, "partByBound", "(I)V"⟩
abbrev cX3_haveOf : ByteArray := prog_5_method_7_code
def yX3_haveOf : MethodName := ⟨RX3, "haveOf", "(LGiftMatch$Scene;II)I"⟩
abbrev cX3_allHave : ByteArray := prog_5_method_8_code
def yX3_allHave : MethodName := ⟨RX3, "allHave", "(LGiftMatch$Scene;)I"⟩
def RX4 : String := "GiftMatch$Partings"
def TX4 : u_T := fun k => match k with
  | 0 => ("GiftMatch$Partings", "ledger", "LGiftMatch$Ledger;", true)
  | 1 => ("GiftMatch$Partings", "mostBy", "[I", true)
  | _ => ("GiftMatch$Partings", "plain", "I", false)
def tyX4 : Nat → FieldType := fun k => match k with
  | 0 => .object "GiftMatch$Ledger"
  | 1 => .array .int
  | _ => .int
abbrev wsX40 : List Cond := u_ws RX4 TX4 3
theorem nmX4 : ∀ a, a < 3 → ∀ b, b < 3 → a ≠ b → (TX4 a).2.1 ≠ (TX4 b).2.1 := by decide +kernel
theorem tyX4_ok : ∀ k, k < 3 → parseFieldDescriptor (TX4 k).2.2.1 = some (tyX4 k) := by decide +kernel
abbrev cX4_init : ByteArray := prog_6_method_1_code
def yX4_init : MethodName := ⟨RX4, "<init>", "(LGiftMatch$Ledger;)V"⟩
abbrev cX4_weighAll : ByteArray := prog_6_method_2_code
def yX4_weighAll : MethodName := ⟨RX4, "weighAll", "(LGiftMatch$Scene;II)V"⟩
abbrev cX4_weigh : ByteArray := prog_6_method_3_code
def yX4_weigh : MethodName := ⟨RX4, "weigh", "(LGiftMatch$Scene;IIIII)V"⟩
abbrev cX4_most : ByteArray := prog_6_method_4_code
def yX4_most : MethodName := ⟨RX4, "most", "()I"⟩
abbrev cX4_leastCost : ByteArray := prog_6_method_5_code
def yX4_leastCost : MethodName := ⟨RX4, "leastCost", "()I"⟩
def RX5 : String := "GiftMatch$Reader"
def TX5 : u_T := fun k => match k with
  | 0 => ("GiftMatch$Reader", "waiting", "[I", true)
  | 1 => ("GiftMatch$Reader", "waitCount", "I", false)
  | 2 => ("GiftMatch$Reader", "brackets", "I", false)
  | 3 => ("GiftMatch$Reader", "digits", "I", false)
  | _ => ("GiftMatch$Reader", "wantsUnit", "Z", false)
def tyX5 : Nat → FieldType := fun k => match k with
  | 0 => .array .int
  | 1 => .int
  | 2 => .int
  | 3 => .int
  | _ => .boolean
abbrev wsX50 : List Cond := u_ws RX5 TX5 5
theorem nmX5 : ∀ a, a < 5 → ∀ b, b < 5 → a ≠ b → (TX5 a).2.1 ≠ (TX5 b).2.1 := by decide +kernel
theorem tyX5_ok : ∀ k, k < 5 → parseFieldDescriptor (TX5 k).2.2.1 = some (tyX5 k) := by decide +kernel
abbrev cX5_init : ByteArray := prog_7_method_1_code
def yX5_init : MethodName := ⟨RX5, "<init>", "()V"⟩
abbrev cX5_read : ByteArray := prog_7_method_2_code
def yX5_read : MethodName := ⟨RX5, "read", "(LGiftMatch$Rule;)V"⟩
abbrev cX5_readCharacter : ByteArray := prog_7_method_3_code
def yX5_readCharacter : MethodName := ⟨RX5, "readCharacter", "(LGiftMatch$Rule;I)V"⟩
abbrev cX5_readDigit : ByteArray := prog_7_method_4_code
def yX5_readDigit : MethodName := ⟨RX5, "readDigit", "(LGiftMatch$Rule;II)V"⟩
abbrev cX5_readUnit : ByteArray := prog_7_method_5_code
def yX5_readUnit : MethodName := ⟨RX5, "readUnit", "(LGiftMatch$Rule;I)Z"⟩
abbrev cX5_readBehindUnit : ByteArray := prog_7_method_6_code
def yX5_readBehindUnit : MethodName := ⟨RX5, "readBehindUnit", "(LGiftMatch$Rule;I)Z"⟩
abbrev cX5_closeBracket : ByteArray := prog_7_method_7_code
def yX5_closeBracket : MethodName := ⟨RX5, "closeBracket", "(LGiftMatch$Rule;)Z"⟩
abbrev cX5_hold : ByteArray := prog_7_method_8_code
def yX5_hold : MethodName := ⟨RX5, "hold", "(I)V"⟩
abbrev cX5_release : ByteArray := prog_7_method_9_code
def yX5_release : MethodName := ⟨RX5, "release", "(LGiftMatch$Rule;I)V"⟩
abbrev cX5_lastRank : ByteArray := prog_7_method_10_code
def yX5_lastRank : MethodName := ⟨RX5, "lastRank", "()I"⟩
abbrev cX5_rankOf : ByteArray := prog_7_method_11_code
def yX5_rankOf : MethodName := ⟨RX5, "rankOf", "(I)I"⟩
def RX6 : String := "GiftMatch$Rounds"
def TX6 : u_T := fun k => match k with
  | 0 => ("GiftMatch$Rounds", "chooser", "LGiftMatch$Chooser;", true)
  | _ => ("GiftMatch$Rounds", "behind", "[J", true)
def tyX6 : Nat → FieldType := fun k => match k with
  | 0 => .object "GiftMatch$Chooser"
  | _ => .array .long
abbrev wsX60 : List Cond := u_ws RX6 TX6 2
theorem nmX6 : ∀ a, a < 2 → ∀ b, b < 2 → a ≠ b → (TX6 a).2.1 ≠ (TX6 b).2.1 := by decide +kernel
theorem tyX6_ok : ∀ k, k < 2 → parseFieldDescriptor (TX6 k).2.2.1 = some (tyX6 k) := by decide +kernel
abbrev cX6_init : ByteArray := prog_8_method_1_code
def yX6_init : MethodName := ⟨RX6, "<init>", "(LGiftMatch$Chooser;)V"⟩
abbrev cX6_run : ByteArray := prog_8_method_2_code
def yX6_run : MethodName := ⟨RX6, "run", "(LGiftMatch$Scene;)I"⟩
abbrev cX6_wasBefore : ByteArray := prog_8_method_3_code
def yX6_wasBefore : MethodName := ⟨RX6, "wasBefore", "(I)Z"⟩
def RX7 : String := "GiftMatch$Rule"
def TX7 : u_T := fun k => match k with
  | 0 => ("GiftMatch$Rule", "text", "[I", true)
  | 1 => ("GiftMatch$Rule", "steps", "[I", true)
  | 2 => ("GiftMatch$Rule", "length", "I", false)
  | 3 => ("GiftMatch$Rule", "stepCount", "I", false)
  | _ => ("GiftMatch$Rule", "flaw", "I", false)
def tyX7 : Nat → FieldType := fun k => match k with
  | 0 => .array .int
  | 1 => .array .int
  | 2 => .int
  | 3 => .int
  | _ => .int
abbrev wsX70 : List Cond := u_ws RX7 TX7 5
theorem nmX7 : ∀ a, a < 5 → ∀ b, b < 5 → a ≠ b → (TX7 a).2.1 ≠ (TX7 b).2.1 := by decide +kernel
theorem tyX7_ok : ∀ k, k < 5 → parseFieldDescriptor (TX7 k).2.2.1 = some (tyX7 k) := by decide +kernel
abbrev cX7_init : ByteArray := prog_9_method_1_code
def yX7_init : MethodName := ⟨RX7, "<init>", "()V"⟩
abbrev cX7_take : ByteArray := prog_9_method_2_code
def yX7_take : MethodName := ⟨RX7, "take", "(LGiftMatch$Rule;)V"⟩
abbrev cX7_addStep : ByteArray := prog_9_method_3_code
def yX7_addStep : MethodName := ⟨RX7, "addStep", "(I)V"⟩
def RX8 : String := "GiftMatch$Scene"
def TX8 : u_T := fun k => match k with
  | 0 => ("GiftMatch$Scene", "coin", "[I", true)
  | 1 => ("GiftMatch$Scene", "bar", "[I", true)
  | 2 => ("GiftMatch$Scene", "first", "[I", true)
  | 3 => ("GiftMatch$Scene", "fall", "[I", true)
  | 4 => ("GiftMatch$Scene", "gift", "[I", true)
  | 5 => ("GiftMatch$Scene", "rules", "[LGiftMatch$Rule;", true)
  | 6 => ("GiftMatch$Scene", "givers", "I", false)
  | 7 => ("GiftMatch$Scene", "works", "I", false)
  | 8 => ("GiftMatch$Scene", "keep", "I", false)
  | 9 => ("GiftMatch$Scene", "theRule", "I", false)
  | 10 => ("GiftMatch$Scene", "purse", "I", false)
  | _ => ("GiftMatch$Scene", "parted", "I", false)
def tyX8 : Nat → FieldType := fun k => match k with
  | 0 => .array .int
  | 1 => .array .int
  | 2 => .array .int
  | 3 => .array .int
  | 4 => .array .int
  | 5 => .array (.object "GiftMatch$Rule")
  | 6 => .int
  | 7 => .int
  | 8 => .int
  | 9 => .int
  | 10 => .int
  | _ => .int
abbrev wsX80 : List Cond := u_ws RX8 TX8 12
theorem nmX8 : ∀ a, a < 12 → ∀ b, b < 12 → a ≠ b → (TX8 a).2.1 ≠ (TX8 b).2.1 := by decide +kernel
theorem tyX8_ok : ∀ k, k < 12 → parseFieldDescriptor (TX8 k).2.2.1 = some (tyX8 k) := by decide +kernel
abbrev cX8_init : ByteArray := prog_10_method_1_code
def yX8_init : MethodName := ⟨RX8, "<init>", "()V"⟩
abbrev cX8_take : ByteArray := prog_10_method_2_code
def yX8_take : MethodName := ⟨RX8, "take", "(LGiftMatch$Scene;)V"⟩
abbrev cX8_takePeople : ByteArray := prog_10_method_3_code
def yX8_takePeople : MethodName := ⟨RX8, "takePeople", "(LGiftMatch$Scene;)V"⟩
abbrev cX8_givenBy : ByteArray := prog_10_method_4_code
def yX8_givenBy : MethodName := ⟨RX8, "givenBy", "(I)I"⟩
abbrev cX8_keptBy : ByteArray := prog_10_method_5_code
def yX8_keptBy : MethodName := ⟨RX8, "keptBy", "(I)I"⟩
abbrev cX8_givenTo : ByteArray := prog_10_method_6_code
def yX8_givenTo : MethodName := ⟨RX8, "givenTo", "(I)I"⟩
abbrev cX8_givenInAll : ByteArray := prog_10_method_7_code
def yX8_givenInAll : MethodName := ⟨RX8, "givenInAll", "()I"⟩
abbrev cX8_coinInAll : ByteArray := prog_10_method_8_code
def yX8_coinInAll : MethodName := ⟨RX8, "coinInAll", "()I"⟩
abbrev cX8_packedGifts : ByteArray := prog_10_method_9_code
def yX8_packedGifts : MethodName := ⟨RX8, "packedGifts", "()J"⟩
abbrev cX8_worthOf : ByteArray := prog_10_method_10_code
def yX8_worthOf : MethodName := ⟨RX8, "worthOf", "(III)I"⟩
def RX9 : String := "GiftMatch$Sight"
def TX9 : u_T := fun k => match k with
  | 0 => ("GiftMatch$Sight", "stack", "[J", true)
  | 1 => ("GiftMatch$Sight", "height", "I", false)
  | 2 => ("GiftMatch$Sight", "sum", "I", false)
  | 3 => ("GiftMatch$Sight", "heads", "I", false)
  | 4 => ("GiftMatch$Sight", "greatest", "I", false)
  | 5 => ("GiftMatch$Sight", "least", "I", false)
  | _ => ("GiftMatch$Sight", "rootSum", "J", false)
def tyX9 : Nat → FieldType := fun k => match k with
  | 0 => .array .long
  | 1 => .int
  | 2 => .int
  | 3 => .int
  | 4 => .int
  | 5 => .int
  | _ => .long
abbrev wsX90 : List Cond := u_ws RX9 TX9 7
theorem nmX9 : ∀ a, a < 7 → ∀ b, b < 7 → a ≠ b → (TX9 a).2.1 ≠ (TX9 b).2.1 := by decide +kernel
theorem tyX9_ok : ∀ k, k < 7 → parseFieldDescriptor (TX9 k).2.2.1 = some (tyX9 k) := by decide +kernel
abbrev cX9_init : ByteArray := prog_11_method_1_code
def yX9_init : MethodName := ⟨RX9, "<init>", "()V"⟩
abbrev cX9_clear : ByteArray := prog_11_method_2_code
def yX9_clear : MethodName := ⟨RX9, "clear", "()V"⟩
abbrev cX9_see : ByteArray := prog_11_method_3_code
def yX9_see : MethodName := ⟨RX9, "see", "(I)V"⟩
abbrev cX9_seeAllBut : ByteArray := prog_11_method_4_code
def yX9_seeAllBut : MethodName := ⟨RX9, "seeAllBut", "(LGiftMatch$Scene;II)V"⟩
abbrev cX9_toldBy : ByteArray := prog_11_method_5_code
def yX9_toldBy : MethodName := ⟨RX9, "toldBy", "(LGiftMatch$Rule;)I"⟩
abbrev cX9_doStep : ByteArray := prog_11_method_6_code
def yX9_doStep : MethodName := ⟨RX9, "doStep", "(I)V"⟩
abbrev cX9_joined : ByteArray := prog_11_method_7_code
def yX9_joined : MethodName := ⟨RX9, "joined", "(IJJ)J"⟩
abbrev cX9_push : ByteArray := prog_11_method_8_code
def yX9_push : MethodName := ⟨RX9, "push", "(J)V"⟩
abbrev cX9_pop : ByteArray := prog_11_method_9_code
def yX9_pop : MethodName := ⟨RX9, "pop", "()J"⟩
def RX10 : String := "GiftMatch"
def TX10 : u_T := fun k => match k with
  | 0 => ("GiftMatch", "scene", "LGiftMatch$Scene;", true)
  | 1 => ("GiftMatch", "bare", "LGiftMatch$Scene;", true)
  | 2 => ("GiftMatch", "images", "[LGiftMatch$Scene;", true)
  | 3 => ("GiftMatch", "isKept", "[Z", true)
  | 4 => ("GiftMatch", "reader", "LGiftMatch$Reader;", true)
  | 5 => ("GiftMatch", "sight", "LGiftMatch$Sight;", true)
  | 6 => ("GiftMatch", "ledger", "LGiftMatch$Ledger;", true)
  | 7 => ("GiftMatch", "chooser", "LGiftMatch$Chooser;", true)
  | 8 => ("GiftMatch", "rounds", "LGiftMatch$Rounds;", true)
  | 9 => ("GiftMatch", "common", "LGiftMatch$Common;", true)
  | 10 => ("GiftMatch", "partings", "LGiftMatch$Partings;", true)
  | _ => ("GiftMatch", "laws", "LGiftMatch$Laws;", true)
def tyX10 : Nat → FieldType := fun k => match k with
  | 0 => .object "GiftMatch$Scene"
  | 1 => .object "GiftMatch$Scene"
  | 2 => .array (.object "GiftMatch$Scene")
  | 3 => .array .boolean
  | 4 => .object "GiftMatch$Reader"
  | 5 => .object "GiftMatch$Sight"
  | 6 => .object "GiftMatch$Ledger"
  | 7 => .object "GiftMatch$Chooser"
  | 8 => .object "GiftMatch$Rounds"
  | 9 => .object "GiftMatch$Common"
  | 10 => .object "GiftMatch$Partings"
  | _ => .object "GiftMatch$Laws"
abbrev wsX100 : List Cond := u_ws RX10 TX10 12
theorem nmX10 : ∀ a, a < 12 → ∀ b, b < 12 → a ≠ b → (TX10 a).2.1 ≠ (TX10 b).2.1 := by decide +kernel
theorem tyX10_ok : ∀ k, k < 12 → parseFieldDescriptor (TX10 k).2.2.1 = some (tyX10 k) := by decide +kernel
abbrev cX10_init : ByteArray := prog_1_method_1_code
def yX10_init : MethodName := ⟨RX10, "<init>", "()V"⟩
abbrev cX10_giver : ByteArray := prog_1_method_2_code
def yX10_giver : MethodName := ⟨RX10, "giver", "(I)I"⟩
abbrev cX10_work : ByteArray := prog_1_method_3_code
def yX10_work : MethodName := ⟨RX10, "work", "(I)I"⟩
abbrev cX10_worth : ByteArray := prog_1_method_4_code
def yX10_worth : MethodName := ⟨RX10, "worth", "(IIII)I"⟩
abbrev cX10_set : ByteArray := prog_1_method_5_code
def yX10_set : MethodName := ⟨RX10, "set", "(II)I"⟩
abbrev cX10_write : ByteArray := prog_1_method_6_code
def yX10_write : MethodName := ⟨RX10, "write", "(II)I"⟩
abbrev cX10_erase : ByteArray := prog_1_method_7_code
def yX10_erase : MethodName := ⟨RX10, "erase", "(I)I"⟩
abbrev cX10_fault : ByteArray := prog_1_method_8_code
def yX10_fault : MethodName := ⟨RX10, "fault", "(I)I"⟩
abbrev cX10_give : ByteArray := prog_1_method_9_code
def yX10_give : MethodName := ⟨RX10, "give", "(III)I"⟩
abbrev cX10_amount : ByteArray := prog_1_method_10_code
def yX10_amount : MethodName := ⟨RX10, "amount", "(II)I"⟩
abbrev cX10_isShort : ByteArray := prog_1_method_11_code
def yX10_isShort : MethodName := ⟨RX10, "isShort", "()I"⟩
abbrev cX10_has : ByteArray := prog_1_method_12_code
def yX10_has : MethodName := ⟨RX10, "has", "(I)I"⟩
abbrev cX10_best : ByteArray := prog_1_method_13_code
def yX10_best : MethodName := ⟨RX10, "best", "(II)I"⟩
abbrev cX10_rest : ByteArray := prog_1_method_14_code
def yX10_rest : MethodName := ⟨RX10, "rest", "(I)I"⟩
abbrev cX10_turns : ByteArray := prog_1_method_15_code
def yX10_turns : MethodName := ⟨RX10, "turns", "()I"⟩
abbrev cX10_good : ByteArray := prog_1_method_16_code
def yX10_good : MethodName := ⟨RX10, "good", "(I)I"⟩
abbrev cX10_lost : ByteArray := prog_1_method_17_code
def yX10_lost : MethodName := ⟨RX10, "lost", "()I"⟩
abbrev cX10_gain : ByteArray := prog_1_method_18_code
def yX10_gain : MethodName := ⟨RX10, "gain", "(II)I"⟩
abbrev cX10_hand : ByteArray := prog_1_method_19_code
def yX10_hand : MethodName := ⟨RX10, "hand", "(II)I"⟩
abbrev cX10_anyway : ByteArray := prog_1_method_20_code
def yX10_anyway : MethodName := ⟨RX10, "anyway", "(I)I"⟩
abbrev cX10_breach : ByteArray := prog_1_method_21_code
def yX10_breach : MethodName := ⟨RX10, "breach", "(III)I"⟩
abbrev cX10_image : ByteArray := prog_1_method_22_code
def yX10_image : MethodName := ⟨RX10, "image", "(I)I"⟩
abbrev cX10_from : ByteArray := prog_1_method_23_code
def yX10_from : MethodName := ⟨RX10, "from", "(I)I"⟩
abbrev cX10_count : ByteArray := prog_1_method_24_code
def yX10_count : MethodName := ⟨RX10, "count", "(I)I"⟩
abbrev cX10_digest : ByteArray := prog_1_method_25_code
def yX10_digest : MethodName := ⟨RX10, "digest", "()J"⟩
abbrev cX10_digestGivers : ByteArray := prog_1_method_26_code
def yX10_digestGivers : MethodName := ⟨RX10, "digestGivers", "(J)J"⟩
abbrev cX10_digestWorks : ByteArray := prog_1_method_27_code
def yX10_digestWorks : MethodName := ⟨RX10, "digestWorks", "(J)J"⟩
abbrev cX10_digestRules : ByteArray := prog_1_method_28_code
def yX10_digestRules : MethodName := ⟨RX10, "digestRules", "(J)J"⟩
abbrev cX10_setKeep : ByteArray := prog_1_method_29_code
def yX10_setKeep : MethodName := ⟨RX10, "setKeep", "(I)I"⟩
abbrev cX10_setTheRule : ByteArray := prog_1_method_30_code
def yX10_setTheRule : MethodName := ⟨RX10, "setTheRule", "(I)I"⟩
abbrev cX10_setPurse : ByteArray := prog_1_method_31_code
def yX10_setPurse : MethodName := ⟨RX10, "setPurse", "(I)I"⟩
abbrev cX10_setParted : ByteArray := prog_1_method_32_code
def yX10_setParted : MethodName := ⟨RX10, "setParted", "(I)I"⟩
abbrev cX10_isWithin : ByteArray := prog_1_method_33_code
def yX10_isWithin : MethodName := ⟨RX10, "isWithin", "(II)Z"⟩
abbrev cX10_isRule : ByteArray := prog_1_method_34_code
def yX10_isRule : MethodName := ⟨RX10, "isRule", "(I)Z"⟩
abbrev cX10_isGiver : ByteArray := prog_1_method_35_code
def yX10_isGiver : MethodName := ⟨RX10, "isGiver", "(I)Z"⟩
abbrev cX10_isWork : ByteArray := prog_1_method_36_code
def yX10_isWork : MethodName := ⟨RX10, "isWork", "(I)Z"⟩
abbrev cX10_isPair : ByteArray := prog_1_method_37_code
def yX10_isPair : MethodName := ⟨RX10, "isPair", "(II)Z"⟩
def RX11 : String := "GiftMatchModel"
def TX11 : u_T := fun k => match k with
  | 0 => ("GiftMatchModel", "now", "[I", true)
  | 1 => ("GiftMatchModel", "kept", "[I", true)
  | 2 => ("GiftMatchModel", "isKept", "[Z", true)
  | 3 => ("GiftMatchModel", "text", "I", false)
  | 4 => ("GiftMatchModel", "at", "I", false)
  | 5 => ("GiftMatchModel", "fault", "I", false)
  | 6 => ("GiftMatchModel", "values", "[J", true)
  | 7 => ("GiftMatchModel", "valueMany", "I", false)
  | 8 => ("GiftMatchModel", "signs", "[I", true)
  | 9 => ("GiftMatchModel", "signMany", "I", false)
  | 10 => ("GiftMatchModel", "names", "[J", true)
  | 11 => ("GiftMatchModel", "told", "J", false)
  | 12 => ("GiftMatchModel", "hands", "[I", true)
  | 13 => ("GiftMatchModel", "handMany", "I", false)
  | 14 => ("GiftMatchModel", "roots", "[J", true)
  | 15 => ("GiftMatchModel", "would", "[I", true)
  | 16 => ("GiftMatchModel", "added", "[I", true)
  | 17 => ("GiftMatchModel", "given", "[I", true)
  | 18 => ("GiftMatchModel", "isPlain", "Z", false)
  | 19 => ("GiftMatchModel", "handGiver", "I", false)
  | 20 => ("GiftMatchModel", "handWork", "I", false)
  | 21 => ("GiftMatchModel", "parts", "[I", true)
  | 22 => ("GiftMatchModel", "bestRow", "[I", true)
  | 23 => ("GiftMatchModel", "wasRow", "[I", true)
  | 24 => ("GiftMatchModel", "rounds", "[I", true)
  | 25 => ("GiftMatchModel", "worthAll", "[I", true)
  | 26 => ("GiftMatchModel", "goodRow", "[I", true)
  | 27 => ("GiftMatchModel", "byHands", "[I", true)
  | _ => ("GiftMatchModel", "wereGifts", "[I", true)
def tyX11 : Nat → FieldType := fun k => match k with
  | 0 => .array .int
  | 1 => .array .int
  | 2 => .array .boolean
  | 3 => .int
  | 4 => .int
  | 5 => .int
  | 6 => .array .long
  | 7 => .int
  | 8 => .array .int
  | 9 => .int
  | 10 => .array .long
  | 11 => .long
  | 12 => .array .int
  | 13 => .int
  | 14 => .array .long
  | 15 => .array .int
  | 16 => .array .int
  | 17 => .array .int
  | 18 => .boolean
  | 19 => .int
  | 20 => .int
  | 21 => .array .int
  | 22 => .array .int
  | 23 => .array .int
  | 24 => .array .int
  | 25 => .array .int
  | 26 => .array .int
  | 27 => .array .int
  | _ => .array .int
abbrev wsX110 : List Cond := u_ws RX11 TX11 29
theorem nmX11 : ∀ a, a < 29 → ∀ b, b < 29 → a ≠ b → (TX11 a).2.1 ≠ (TX11 b).2.1 := by decide +kernel
theorem tyX11_ok : ∀ k, k < 29 → parseFieldDescriptor (TX11 k).2.2.1 = some (tyX11 k) := by decide +kernel
abbrev cX11_init : ByteArray := prog_13_method_1_code
def yX11_init : MethodName := ⟨RX11, "<init>", "()V"⟩
abbrev cX11_in : ByteArray := prog_13_method_3_code
def yX11_in : MethodName := ⟨RX11, "in", "(JJJ)Z"⟩
abbrev cX11_givers : ByteArray := prog_13_method_4_code
def yX11_givers : MethodName := ⟨RX11, "givers", "()I"⟩
abbrev cX11_works : ByteArray := prog_13_method_5_code
def yX11_works : MethodName := ⟨RX11, "works", "()I"⟩
abbrev cX11_isGiver : ByteArray := prog_13_method_6_code
def yX11_isGiver : MethodName := ⟨RX11, "isGiver", "(I)Z"⟩
abbrev cX11_isWork : ByteArray := prog_13_method_7_code
def yX11_isWork : MethodName := ⟨RX11, "isWork", "(I)Z"⟩
abbrev cX11_gift : ByteArray := prog_13_method_8_code
def yX11_gift : MethodName := ⟨RX11, "gift", "(II)I"⟩
abbrev cX11_giver : ByteArray := prog_13_method_9_code
def yX11_giver : MethodName := ⟨RX11, "giver", "(I)I"⟩
abbrev cX11_work : ByteArray := prog_13_method_10_code
def yX11_work : MethodName := ⟨RX11, "work", "(I)I"⟩
abbrev cX11_worth : ByteArray := prog_13_method_11_code
def yX11_worth : MethodName := ⟨RX11, "worth", "(IIII)I"⟩
abbrev cX11_set : ByteArray := prog_13_method_12_code
def yX11_set : MethodName := ⟨RX11, "set", "(II)I"⟩
abbrev cX11_isRule : ByteArray := prog_13_method_13_code
def yX11_isRule : MethodName := ⟨RX11, "isRule", "(I)Z"⟩
abbrev cX11_write : ByteArray := prog_13_method_14_code
def yX11_write : MethodName := ⟨RX11, "write", "(II)I"⟩
abbrev cX11_erase : ByteArray := prog_13_method_15_code
def yX11_erase : MethodName := ⟨RX11, "erase", "(I)I"⟩
abbrev cX11_textLong : ByteArray := prog_13_method_16_code
def yX11_textLong : MethodName := ⟨RX11, "textLong", "()I"⟩
abbrev cX11_charAt : ByteArray := prog_13_method_17_code
def yX11_charAt : MethodName := ⟨RX11, "charAt", "(I)I"⟩
abbrev cX11_ahead : ByteArray := prog_13_method_18_code
def yX11_ahead : MethodName := ⟨RX11, "ahead", "()I"⟩
abbrev cX11_rank : ByteArray := prog_13_method_19_code
def yX11_rank : MethodName := ⟨RX11, "rank", "(I)I"⟩
abbrev cX11_workOut : ByteArray := prog_13_method_20_code
def yX11_workOut : MethodName := ⟨RX11, "workOut", "()V"⟩
abbrev cX11_workDown : ByteArray := prog_13_method_21_code
def yX11_workDown : MethodName := ⟨RX11, "workDown", "(I)V"⟩
abbrev cX11_stands : ByteArray := prog_13_method_22_code
def yX11_stands : MethodName := ⟨RX11, "stands", "(J)V"⟩
abbrev cX11_nameOf : ByteArray := prog_13_method_23_code
def yX11_nameOf : MethodName := ⟨RX11, "nameOf", "(I)I"⟩
abbrev cX11_digits : ByteArray := prog_13_method_24_code
def yX11_digits : MethodName := ⟨RX11, "digits", "()J"⟩
abbrev cX11_reads : ByteArray := prog_13_method_25_code
def yX11_reads : MethodName := ⟨RX11, "reads", "()Z"⟩
abbrev cX11_fault : ByteArray := prog_13_method_26_code
def yX11_fault : MethodName := ⟨RX11, "fault", "(I)I"⟩
abbrev cX11_rootOf : ByteArray := prog_13_method_27_code
def yX11_rootOf : MethodName := ⟨RX11, "rootOf", "(I)J"⟩
abbrev cX11_putHand : ByteArray := prog_13_method_28_code
def yX11_putHand : MethodName := ⟨RX11, "putHand", "(I)V"⟩
abbrev cX11_addedBy : ByteArray := prog_13_method_29_code
def yX11_addedBy : MethodName := ⟨RX11, "addedBy", "(I)I"⟩
abbrev cX11_addUp : ByteArray := prog_13_method_30_code
def yX11_addUp : MethodName := ⟨RX11, "addUp", "()V"⟩
abbrev cX11_part : ByteArray := prog_13_method_31_code
def yX11_part : MethodName := ⟨RX11, "part", "(II)V"⟩
abbrev cX11_below : ByteArray := prog_13_method_32_code
def yX11_below : MethodName := ⟨RX11, "below", "(I)I"⟩
abbrev cX11_worthOf : ByteArray := prog_13_method_33_code
def yX11_worthOf : MethodName := ⟨RX11, "worthOf", "(III)I"⟩
abbrev cX11_hasNow : ByteArray := prog_13_method_34_code
def yX11_hasNow : MethodName := ⟨RX11, "hasNow", "(I)I"⟩
abbrev cX11_allNow : ByteArray := prog_13_method_35_code
def yX11_allNow : MethodName := ⟨RX11, "allNow", "()I"⟩
abbrev cX11_give : ByteArray := prog_13_method_36_code
def yX11_give : MethodName := ⟨RX11, "give", "(III)I"⟩
abbrev cX11_amount : ByteArray := prog_13_method_37_code
def yX11_amount : MethodName := ⟨RX11, "amount", "(II)I"⟩
abbrev cX11_isShort : ByteArray := prog_13_method_38_code
def yX11_isShort : MethodName := ⟨RX11, "isShort", "()I"⟩
abbrev cX11_has : ByteArray := prog_13_method_39_code
def yX11_has : MethodName := ⟨RX11, "has", "(I)I"⟩
abbrev cX11_setRow : ByteArray := prog_13_method_40_code
def yX11_setRow : MethodName := ⟨RX11, "setRow", "(IIII)V"⟩
abbrev cX11_findBest : ByteArray := prog_13_method_41_code
def yX11_findBest : MethodName := ⟨RX11, "findBest", "(I)I"⟩
abbrev cX11_best : ByteArray := prog_13_method_42_code
def yX11_best : MethodName := ⟨RX11, "best", "(II)I"⟩
abbrev cX11_rest : ByteArray := prog_13_method_43_code
def yX11_rest : MethodName := ⟨RX11, "rest", "(I)I"⟩
abbrev cX11_isAgain : ByteArray := prog_13_method_44_code
def yX11_isAgain : MethodName := ⟨RX11, "isAgain", "(I)Z"⟩
abbrev cX11_note : ByteArray := prog_13_method_45_code
def yX11_note : MethodName := ⟨RX11, "note", "(I)V"⟩
abbrev cX11_goByTurns : ByteArray := prog_13_method_46_code
def yX11_goByTurns : MethodName := ⟨RX11, "goByTurns", "()I"⟩
abbrev cX11_turns : ByteArray := prog_13_method_47_code
def yX11_turns : MethodName := ⟨RX11, "turns", "()I"⟩
abbrev cX11_allCoin : ByteArray := prog_13_method_48_code
def yX11_allCoin : MethodName := ⟨RX11, "allCoin", "()I"⟩
abbrev cX11_findGood : ByteArray := prog_13_method_49_code
def yX11_findGood : MethodName := ⟨RX11, "findGood", "()I"⟩
abbrev cX11_good : ByteArray := prog_13_method_50_code
def yX11_good : MethodName := ⟨RX11, "good", "(I)I"⟩
abbrev cX11_lost : ByteArray := prog_13_method_51_code
def yX11_lost : MethodName := ⟨RX11, "lost", "()I"⟩
abbrev cX11_findHands : ByteArray := prog_13_method_52_code
def yX11_findHands : MethodName := ⟨RX11, "findHands", "(II)V"⟩
abbrev cX11_gain : ByteArray := prog_13_method_53_code
def yX11_gain : MethodName := ⟨RX11, "gain", "(II)I"⟩
abbrev cX11_hand : ByteArray := prog_13_method_54_code
def yX11_hand : MethodName := ⟨RX11, "hand", "(II)I"⟩
abbrev cX11_coinsGiven : ByteArray := prog_13_method_55_code
def yX11_coinsGiven : MethodName := ⟨RX11, "coinsGiven", "()I"⟩
abbrev cX11_anyway : ByteArray := prog_13_method_56_code
def yX11_anyway : MethodName := ⟨RX11, "anyway", "(I)I"⟩
abbrev cX11_addedTo : ByteArray := prog_13_method_57_code
def yX11_addedTo : MethodName := ⟨RX11, "addedTo", "(IIII)I"⟩
abbrev cX11_holds : ByteArray := prog_13_method_58_code
def yX11_holds : MethodName := ⟨RX11, "holds", "(IIIII)Z"⟩
abbrev cX11_breach : ByteArray := prog_13_method_59_code
def yX11_breach : MethodName := ⟨RX11, "breach", "(III)I"⟩
abbrev cX11_image : ByteArray := prog_13_method_60_code
def yX11_image : MethodName := ⟨RX11, "image", "(I)I"⟩
abbrev cX11_from : ByteArray := prog_13_method_61_code
def yX11_from : MethodName := ⟨RX11, "from", "(I)I"⟩
abbrev cX11_count : ByteArray := prog_13_method_62_code
def yX11_count : MethodName := ⟨RX11, "count", "(I)I"⟩
abbrev cX11_digest : ByteArray := prog_13_method_63_code
def yX11_digest : MethodName := ⟨RX11, "digest", "()J"⟩
def RJ9 : String := "java/lang/Math"
def TJ9 : u_T := fun k => match k with
  | _ => ("", "", "", false)
def tyJ9 : Nat → FieldType := fun k => match k with
  | _ => .int
abbrev wsJ90 : List Cond := u_ws RJ9 TJ9 0
theorem nmJ9 : ∀ a, a < 0 → ∀ b, b < 0 → a ≠ b → (TJ9 a).2.1 ≠ (TJ9 b).2.1 := by decide +kernel
theorem tyJ9_ok : ∀ k, k < 0 → parseFieldDescriptor (TJ9 k).2.2.1 = some (tyJ9 k) := by decide +kernel
abbrev cJ9_max_7cf53 : ByteArray := prog_14_method_65_code
def yJ9_max_7cf53 : MethodName := ⟨RJ9, "max", "(II)I"⟩
abbrev cJ9_max_f86c9 : ByteArray := prog_14_method_66_code
def yJ9_max_f86c9 : MethodName := ⟨RJ9, "max", "(JJ)J"⟩
abbrev cJ9_min_7cf53 : ByteArray := prog_14_method_69_code
def yJ9_min_7cf53 : MethodName := ⟨RJ9, "min", "(II)I"⟩
abbrev cJ9_min_f86c9 : ByteArray := prog_14_method_70_code
def yJ9_min_f86c9 : MethodName := ⟨RJ9, "min", "(JJ)J"⟩
def RJ10 : String := "java/lang/System"
def TJ10 : u_T := fun k => match k with
  | _ => ("", "", "", false)
def tyJ10 : Nat → FieldType := fun k => match k with
  | _ => .int
abbrev wsJ100 : List Cond := u_ws RJ10 TJ10 0
theorem nmJ10 : ∀ a, a < 0 → ∀ b, b < 0 → a ≠ b → (TJ10 a).2.1 ≠ (TJ10 b).2.1 := by decide +kernel
theorem tyJ10_ok : ∀ k, k < 0 → parseFieldDescriptor (TJ10 k).2.2.1 = some (tyJ10 k) := by decide +kernel
def RL : String := "GiftMatchLaw"
abbrev cL_law : ByteArray := code
def yL_law : MethodName := ⟨RL, "law", "([I)Z"⟩
